/** The bounds of SAILS that are CUT: promises 11 to 15. */
public final class CutBoundsTest {
    private static final Bounds.Start RICH = Lofts::rich;
    private static final Bounds.Start PLAIN = Lofts::plain;
    private static final Bounds.Start ONE_PANEL = CutBoundsTest::onePanel;

    private static final Due due = new Due();
    private static final Bounds bounds = new Bounds(due);

    public static void main(String[] args) {
        seamsOfASail();
        noSeamAboveTheLastPanel();
        howFarASeamLetsOut();
        narrowOfWhatIsNotCut();
        stripOfAPatch();
        breadthOfAPatch();
        lengthOfAPatch();
        patchOfWhatIsNotCut();
        pieces40();
        panels40LeaveNoPatch();
        whatIsTold();
        toldOfNoSuchSail();
        toldInEachState();
        areaOfEdgesThatCross();
        areaIsOfAllStrips();
        whatOfAPanel();
        panelOfNoSuchNumber();
        panelOfNoSuchSail();
        lengthFromLowerToUpper();
        kindOfASeamThatLetsOut();
        kindOnAnOldBolt();
        boltAndPlaceOfWhatIsNotLaid();
        weightAtMost1000000();
        weightIsCut();
        weightOfWhatIsNotLaid();
        weightOfAll();
        heightsOfFull();
        fullAtASeam();
        fullOfAllSeams();
        fullOfWhatIsNotCut();
        due.end();
    }

    private static Loft onePanel() {
        Loft x = Lofts.plain();
        x.sail(0, 10, 0, 10, 4);
        x.cut(1, 5, 1);
        x.patch(1, 0, 1, 1);
        return x;
    }

    private static void seamsOfASail() {
        due.about("11 the seam above PANEL i");
        bounds.yesRange("i", RICH, (x, v) -> Bounds.bit(x.narrow(1, v, 7)), 0, 1);
        bounds.yesRange("i", PLAIN, (x, v) -> Bounds.bit(x.narrow(0, v, 7)), 0, 1);
        Bounds.Start most = () -> {
            Loft x = new Loft();
            x.sail(0, 1, 0, 1, 40);
            x.cut(0, 2, 1);
            return x;
        };
        bounds.yesRange("i of 40", most, (x, v) -> Bounds.bit(x.narrow(0, v, 7)), 0, 38);
    }

    private static void noSeamAboveTheLastPanel() {
        due.about("11 of the last PANEL none can");
        bounds.nothing("the last", PLAIN, x -> Bounds.bit(x.narrow(0, 2, 1)), 0);
        bounds.nothing("the last, by 0", PLAIN, x -> Bounds.bit(x.narrow(0, 2, 0)), 0);
        bounds.nothing("the last, a PATCH behind", RICH, x -> Bounds.bit(x.narrow(1, 2, 1)), 0);
        bounds.nothing("a PATCH", RICH, x -> Bounds.bit(x.narrow(1, 3, 1)), 0);
        bounds.nothing("the one PANEL", ONE_PANEL, x -> Bounds.bit(x.narrow(1, 0, 1)), 0);
        bounds.nothing("its PATCH", ONE_PANEL, x -> Bounds.bit(x.narrow(1, 1, 1)), 0);
        bounds.nothing("none", ONE_PANEL, x -> Bounds.bit(x.narrow(1, -1, 1)), 0);
    }

    private static void howFarASeamLetsOut() {
        due.about("11 v of 0 to 50");
        bounds.yesRange("v", RICH, (x, v) -> Bounds.bit(x.narrow(1, 0, v)), 0, 50);
        bounds.yesRange("v", PLAIN, (x, v) -> Bounds.bit(x.narrow(0, 1, v)), 0, 50);
        for (int v : new int[] {0, 1, 49, 50}) {
            Loft x = Lofts.rich();
            x.narrow(1, 0, v);
            due.is("lets out", x.panel(1, 0, 9), v);
            due.is("the next doesn't", x.panel(1, 1, 9), 0);
        }
    }

    private static void narrowOfWhatIsNotCut() {
        due.about("11 no such sail that is CUT");
        bounds.outside("sail", RICH, (x, v) -> Bounds.bit(x.narrow(v, 0, 1)), 0, 2, 0);
        bounds.outside("sail", Lofts::fullOfSails, (x, v) -> Bounds.bit(x.narrow(v, 0, 1)), 0, 9, 0);
        bounds.nothing("OPEN", RICH, x -> Bounds.bit(x.narrow(2, 0, 1)), 0);
        bounds.nothing("TAKEN", RICH, x -> Bounds.bit(x.narrow(0, 0, 1)), 0);
        bounds.nothing("TAKEN, by 0", RICH, x -> Bounds.bit(x.narrow(0, 0, 0)), 0);
    }

    private static void stripOfAPatch() {
        due.about("12 a strip of 0 to H - 1");
        bounds.range("y", RICH, (x, v) -> x.patch(1, v, 3, 4), 0, 11, 4, -1);
        bounds.range("y of two strips", Lofts::fullOfSails, (x, v) -> x.patch(9, v, 3, 4), 0, 1, 1, -1);
        for (int y : new int[] {0, 11}) {
            Loft x = Lofts.rich();
            x.patch(1, y, 3, 4);
            due.is("its strip", x.panel(1, 4, 1), y);
            due.is("the strip and 1", x.panel(1, 4, 2), y + 1);
        }
    }

    private static void breadthOfAPatch() {
        due.about("12 a breadth of 1 to 20");
        bounds.range("breadth", RICH, (x, v) -> x.patch(1, 5, v, 4), 1, 20, 4, -1);
        for (int breadth : new int[] {1, 20}) {
            Loft x = Lofts.rich();
            x.patch(1, 5, breadth, 4);
            due.is("its breadth has no SEAM", x.panel(1, 4, 4), breadth);
            due.is("TWICE its area", x.panel(1, 4, 5), 8 * breadth);
        }
    }

    private static void lengthOfAPatch() {
        due.about("12 a length of 1 to 100");
        bounds.range("length", RICH, (x, v) -> x.patch(1, 5, 3, v), 1, 100, 4, -1);
        for (int length : new int[] {1, 100}) {
            Loft x = Lofts.rich();
            x.patch(1, 5, 20, length);
            due.is("length", x.panel(1, 4, 3), length);
            due.is("TWICE its area", x.panel(1, 4, 5), 40 * length);
        }
    }

    private static void patchOfWhatIsNotCut() {
        due.about("12 no such sail that is CUT");
        bounds.outside("sail", RICH, (x, v) -> x.patch(v, 0, 1, 1), 0, 2, -1);
        bounds.outside("sail", Lofts::fullOfSails, (x, v) -> x.patch(v, 0, 1, 1), 0, 9, -1);
        bounds.nothing("OPEN", RICH, x -> x.patch(2, 0, 1, 1), -1);
        bounds.nothing("TAKEN", RICH, x -> x.patch(0, 0, 1, 1), -1);
    }

    private static Bounds.Start pieces(int many) {
        return () -> {
            Loft x = Lofts.plain();
            for (int i = 3; i < many; i++) {
                x.patch(0, i % 10, 1 + i % 20, i);
            }
            return x;
        };
    }

    private static void pieces40() {
        due.about("12 there are 40");
        bounds.act("the 40th", pieces(39), x -> x.patch(0, 4, 5, 6), 39);
        bounds.nothing("the 41st", pieces(40), x -> x.patch(0, 4, 5, 6), -1);
        Loft x = pieces(40).make();
        due.is("PATCHES", x.told(0, 2), 37);
        due.is("the 40th is one", x.panel(0, 39, 0), 2);
        x.undo();
        due.is("the 40th is undone", x.panel(0, 39, 0), -1);
        due.is("the 40th again", x.patch(0, 9, 20, 100), 39);
        due.is("as it is now", x.panel(0, 39, 3), 100);
    }

    private static void panels40LeaveNoPatch() {
        due.about("12 40 in all");
        for (int height = 39; height <= 40; height++) {
            int high = height;
            Bounds.Start start = () -> {
                Loft x = Lofts.plain();
                x.sail(0, 2, 0, 2, high);
                x.cut(1, 2, 1);
                return x;
            };
            if (height == 39) {
                bounds.act("39 PANELS", start, x -> x.patch(1, 0, 1, 1), 39);
            } else {
                bounds.nothing("40 PANELS", start, x -> x.patch(1, 0, 1, 1), -1);
            }
            bounds.act("of another sail", start, x -> x.patch(0, 0, 1, 1), 3);
        }
    }

    private static void whatIsTold() {
        due.about("13 what 0 to 8");
        for (int sail = 0; sail <= 2; sail++) {
            int of = sail;
            bounds.outside("what", RICH, (x, v) -> x.told(of, v), 0, 8, -1);
        }
        bounds.nothing("what 0", RICH, x -> x.told(1, 0), 1);
        bounds.nothing("what 8", RICH, x -> x.told(1, 8), 12);
    }

    private static void toldOfNoSuchSail() {
        due.about("13 no such sail");
        for (int what = 0; what <= 8; what++) {
            int of = what;
            bounds.outside("sail, " + what, RICH, (x, v) -> x.told(v, of), 0, 2, -1);
        }
        bounds.outside("sail", Lofts::fullOfSails, (x, v) -> x.told(v, 0), 0, 9, -1);
        bounds.nothing("the last", Lofts::fullOfSails, x -> x.told(9, 0), 1);
    }

    private static void toldInEachState() {
        due.about("13 0 OPEN, 1 CUT, 2 TAKEN");
        Loft x = Lofts.rich();
        int[][] want = {
            {2, 3, 0, 10},
            {1, 3, 1, 12},
            {0, 0, 0, 6},
        };
        for (int sail = 0; sail < 3; sail++) {
            due.is("state of " + sail, x.told(sail, 0), want[sail][0]);
            due.is("PANELS of " + sail, x.told(sail, 1), want[sail][1]);
            due.is("PATCHES of " + sail, x.told(sail, 2), want[sail][2]);
            due.is("H of " + sail, x.told(sail, 8), want[sail][3]);
        }
        due.is("REEF", x.told(1, 4), 3);
        due.is("SET", x.told(1, 5), 1);
        due.is("not SET any more", x.told(0, 5), 0);
        due.is("REEF LINES", x.told(1, 7), 2);
        due.is("REEF LINES of the OPEN one", x.told(2, 7), 1);
    }

    private static void areaOfEdgesThatCross() {
        due.about("13 as its EDGES are");
        Loft x = new Loft();
        x.sail(0, 0, 0, 0, 60);
        due.is("nothing", x.told(0, 3), 0);
        x.sail(500, -500, 500, -500, 60);
        due.is("less than nothing", x.told(1, 3), -2 * 1000 * 60);
        x.sail(-500, 500, -500, 500, 60);
        due.is("the straight most", x.told(2, 3), 2 * 1000 * 60);
        x.sail(0, 0, 0, -1, 1);
        due.is("-1, which isn't NONE here", x.told(3, 3), -1);
        x.edge(0, 1, 61);
        x.stand(0, 1, 60, 3);
        due.is("the head counts once", x.told(0, 3), 3);
        x.stand(0, 1, 59, 5);
        due.is("what lies between counts twice", x.told(0, 3), 13);
        x.stand(0, 1, 0, 7);
        due.is("the foot counts once", x.told(0, 3), 20);
    }

    private static void areaIsOfAllStrips() {
        due.about("13 of all strips, whatever a REEF takes");
        Loft x = Lofts.plain();
        x.reef(0, 10);
        due.is("all", x.told(0, 3), 200);
        x.plan(0);
        x.take(0);
        due.is("TAKEN", x.told(0, 3), 200);
    }

    private static void whatOfAPanel() {
        due.about("14 what 0 to 9");
        for (int i = 0; i <= 3; i++) {
            int of = i;
            bounds.outside("what", RICH, (x, v) -> x.panel(1, of, v), 0, 9, -1);
        }
        bounds.nothing("what 0", RICH, x -> x.panel(1, 0, 0), 1);
        bounds.nothing("what 9", RICH, x -> x.panel(1, 0, 9), 9);
    }

    private static void panelOfNoSuchNumber() {
        due.about("14 no such PANEL or PATCH");
        for (int what = 0; what <= 9; what++) {
            int of = what;
            bounds.outside("i", RICH, (x, v) -> x.panel(1, v, of), 0, 3, -1);
            bounds.outside("i of a TAKEN one", RICH, (x, v) -> x.panel(0, v, of), 0, 2, -1);
            bounds.nothing("i 0 of an OPEN one", RICH, x -> x.panel(2, 0, of), -1);
        }
        bounds.outside("i", pieces(40), (x, v) -> x.panel(0, v, 0), 0, 39, -1);
        bounds.nothing("the first", RICH, x -> x.panel(1, 0, 2), 4);
        bounds.nothing("the last", RICH, x -> x.panel(1, 3, 2), 4);
    }

    private static void panelOfNoSuchSail() {
        due.about("14 no such sail");
        bounds.outside("sail", RICH, (x, v) -> x.panel(v, 0, 0), 0, 2, -1);
        bounds.outside("sail", Lofts::fullOfSails, (x, v) -> x.panel(v, 0, 0), 0, 9, -1);
        bounds.nothing("the last", Lofts::fullOfSails, x -> x.panel(9, 0, 4), 3);
    }

    private static void lengthFromLowerToUpper() {
        due.about("14 of all heights from its lower to its upper one");
        for (int y = 0; y <= 8; y++) {
            Loft x = new Loft();
            x.sail(0, 5, 0, 5, 8);
            x.edge(0, 0, 9);
            x.edge(0, 1, 9);
            x.stand(0, 0, y, -3);
            x.stand(0, 1, y, 6);
            x.cut(0, 5, 1);
            due.is("lower PANEL, " + y, x.panel(0, 0, 3), y <= 4 ? 14 : 5);
            due.is("upper PANEL, " + y, x.panel(0, 1, 3), y >= 4 ? 14 : 5);
        }
        Loft x = new Loft();
        x.sail(-500, 500, -500, 500, 2);
        x.edge(0, 0, 1);
        x.edge(0, 1, 3);
        x.stand(0, 0, 0, -200);
        x.stand(0, 1, 2, 200);
        x.cut(0, 20, 1);
        due.is("the longest", x.panel(0, 0, 3), 1400);
        x.sail(0, 1, 0, 1, 1);
        x.cut(1, 2, 1);
        due.is("the shortest", x.panel(1, 0, 3), 1);
    }

    private static void kindOfASeamThatLetsOut() {
        due.about("14 TAPERED, 1 to 50");
        Loft x = Lofts.plain();
        due.is("at first", x.panel(0, 0, 0), 0);
        int[][] rows = {{0, 0}, {1, 1}, {50, 1}, {0, 0}};
        for (int[] row : rows) {
            x.narrow(0, 0, row[0]);
            due.is("by " + row[0], x.panel(0, 0, 0), row[1]);
            due.is("the one above isn't", x.panel(0, 1, 0), 0);
        }
        x.narrow(0, 1, 1);
        due.is("the last one isn't", x.panel(0, 2, 0), 0);
        due.is("nor lets it out", x.panel(0, 2, 9), 0);
    }

    private static void kindOnAnOldBolt() {
        due.about("14 3 rather than 1");
        Loft x = Lofts.rich();
        due.is("lies on an old bolt", x.panel(1, 1, 0), 3);
        x.narrow(1, 1, 1);
        due.is("and its seam lets out", x.panel(1, 1, 0), 3);
        x.lift(1, 1);
        due.is("lifted", x.panel(1, 1, 0), 1);
        x.lay(1, 1, 0, 150, 0);
        due.is("on a new bolt", x.panel(1, 1, 0), 1);
        x.lay(1, 3, 5, 0, 0);
        due.is("a PATCH on an old bolt", x.panel(1, 3, 0), 2);
        x.lay(1, 2, 4, 0, 0);
        due.is("the last PANEL on an old bolt", x.panel(1, 2, 0), 3);
    }

    private static void boltAndPlaceOfWhatIsNotLaid() {
        due.about("14 the bolt (NONE), the place (NONE)");
        bounds.nothing("bolt", RICH, x -> x.panel(1, 2, 6), -1);
        bounds.nothing("place", RICH, x -> x.panel(1, 2, 7), -1);
        bounds.nothing("bolt", RICH, x -> x.panel(1, 1, 6), 3);
        bounds.nothing("place", RICH, x -> x.panel(1, 1, 7), 0);
        bounds.nothing("bolt", RICH, x -> x.panel(1, 0, 6), 0);
        bounds.nothing("place", RICH, x -> x.panel(1, 0, 7), 100);
        bounds.nothing("of a TAKEN one", RICH, x -> x.panel(0, 2, 7), 20);
    }

    /** A PATCH of that breadth and length on a bolt of such grams: its WEIGHT. */
    private static int weight(float grams, int breadth, int length) {
        Loft x = Lofts.plain();
        int bolt = x.bolt(20, 200, Lofts.bits(grams));
        int i = x.patch(0, 0, breadth, length);
        x.lay(0, i, bolt, 0, 0);
        return x.panel(0, i, 8);
    }

    private static void weightAtMost1000000() {
        due.about("14 1,000,000 at most");
        due.is("just that", weight(1000f, 10, 100), 1000000);
        due.is("just below", weight(Math.nextDown(1000f), 10, 100), 999999);
        due.is("just above", weight(1000f, 13, 77), 1000000);
        due.is("1,001 squares", weight(999.5f, 13, 77), 1000000);
        due.is("twice that", weight(1000f, 20, 100), 1000000);
        due.is("as many, but lighter", weight(500f, 20, 100), 1000000);
        due.is("and lighter still", weight(Math.nextDown(500f), 20, 100), 999999);
    }

    private static void weightIsCut() {
        due.about("14 cut to a whole number");
        due.is("0.99", weight(0.99f, 1, 1), 0);
        due.is("1", weight(1f, 1, 1), 1);
        due.is("nearly 1", weight(Math.nextDown(1f), 1, 1), 0);
        due.is("1.99", weight(1.99f, 1, 1), 1);
        due.is("nothing", weight(0f, 20, 100), 0);
        due.is("nearly nothing", weight(Float.MIN_VALUE, 20, 100), 0);
        due.is("a third thrice", weight(1f / 3f, 1, 3), 1);
        due.is("nearly a third thrice", weight(Math.nextDown(1f / 3f), 1, 3), 0);
        due.is("as a float", weight(16.1f, 19, 97), (int) (16.1f * 3686f / 2f));
        due.is("as a float", weight(123.456f, 20, 99), (int) (123.456f * 3960f / 2f));
        Loft x = new Loft();
        x.bolt(20, 200, Lofts.bits(0.5f));
        x.sail(0, 1, 0, 4, 1);
        x.cut(0, 2, 1);
        x.lay(0, 0, 0, 0, 0);
        due.is("of 5 halves of squares", x.panel(0, 0, 8), 1);
    }

    private static void weightOfWhatIsNotLaid() {
        due.about("14 of one that isn't laid 0");
        bounds.nothing("a PANEL", RICH, x -> x.panel(1, 2, 8), 0);
        bounds.nothing("a PATCH", RICH, x -> x.panel(1, 3, 8), 0);
        bounds.nothing("one that is laid", RICH, x -> x.panel(0, 0, 8), 40);
    }

    private static void weightOfAll() {
        due.about("13 the WEIGHT of all");
        Loft x = new Loft();
        for (int b = 0; b < 20; b++) {
            x.bolt(20, 200, Lofts.bits(1000f));
        }
        x.sail(0, 1, 0, 1, 1);
        x.cut(0, 2, 1);
        for (int i = 1; i < 40; i++) {
            x.patch(0, 0, 20, 100);
        }
        due.is("nothing is laid", x.told(0, 6), 0);
        due.is("plan", x.plan(0), -1);
        due.is("the most, and a PANEL", x.told(0, 6), 39000000 + 1000);
        x.lift(0, 39);
        due.is("one less", x.told(0, 6), 38000000 + 1000);
    }

    private static void heightsOfFull() {
        due.about("15 a height of 0 to H");
        bounds.outside("y", RICH, (x, v) -> x.full(1, v), 0, 12, -1);
        bounds.nothing("0", RICH, x -> x.full(1, 0), 0);
        bounds.nothing("H", RICH, x -> x.full(1, 12), 9);
    }

    private static void fullAtASeam() {
        due.about("15 at a height or below it");
        Loft x = Lofts.plain();
        x.narrow(0, 0, 1);
        x.narrow(0, 1, 50);
        int[] want = {0, 0, 0, 0, 1, 1, 1, 1, 51, 51, 51};
        for (int y = 0; y <= 10; y++) {
            due.is("at " + y, x.full(0, y), want[y]);
        }
        x.narrow(0, 0, 0);
        due.is("let in again", x.full(0, 7), 0);
        due.is("the one above", x.full(0, 8), 50);
    }

    private static void fullOfAllSeams() {
        due.about("15 what all seams let out");
        Loft x = new Loft();
        x.sail(0, 1, 0, 1, 40);
        x.cut(0, 2, 1);
        for (int i = 0; i < 39; i++) {
            due.yes("narrow", x.narrow(0, i, 50));
        }
        for (int y = 0; y <= 40; y++) {
            due.is("at " + y, x.full(0, y), 50 * Math.min(39, y));
        }
        Loft one = onePanel();
        due.is("no seam", one.full(1, 4), 0);
    }

    private static void fullOfWhatIsNotCut() {
        due.about("15 no such sail that is CUT");
        bounds.outside("sail", RICH, (x, v) -> x.full(v, 0), 0, 2, -1);
        bounds.outside("sail", Lofts::fullOfSails, (x, v) -> x.full(v, 0), 0, 9, -1);
        bounds.nothing("OPEN", RICH, x -> x.full(2, 0), -1);
        bounds.nothing("TAKEN", RICH, x -> x.full(0, 0), -1);
    }
}
