/** The bounds of THE MAST, the WIND and REEFS: promises 22 to 29. */
public final class MastBoundsTest {
    private static final int MOST_LOAD = 2000000000;
    private static final Bounds.Start RICH = Lofts::rich;
    private static final Bounds.Start PLAIN = Lofts::plain;
    private static final Bounds.Start WINDY = MastBoundsTest::windy;

    private static final Due due = new Due();
    private static final Bounds bounds = new Bounds(due);

    public static void main(String[] args) {
        heightsOfTheMast();
        loadsOfTheMast();
        mastAtEachHeight();
        loadsAtFirst();
        stripsOfTheWind();
        pushesOfTheWind();
        windAtEachStrip();
        windAtFirst();
        mastAndWindAreNoActs();
        setOfWhatIsNotCut();
        setToWhatItIs();
        linesOfAReef();
        reefWhereItIs();
        reefOfWhatIsNotCut();
        heightsOfALine();
        linesRise();
        lines3();
        lineInEachState();
        heightsOfPush();
        pushOfStripsThatThereAre();
        pushOfWhatNoReefTakes();
        pushOfWhatIsSet();
        theGreatestPush();
        bearsFourTimesItsLoad();
        bearsTheGreatestLoads();
        bearsTheFirstHeight();
        leastAsItIs();
        leastNotWithAll();
        leastTakesLinesAboveTheReef();
        leastRoundByRound();
        leastStopsAtOnce();
        leastOfAllThereCanBe();
        leastChangesNothing();
        due.end();
    }

    /** One sail of all 60 heights, SET in a wind that every height of the mast just bears. */
    private static Loft windy() {
        Loft x = new Loft();
        x.sail(0, 10, 0, 10, 60);
        x.cut(0, 20, 1);
        x.set(0, true);
        for (int y = 0; y < 60; y++) {
            x.wind(y, 1);
        }
        for (int k = 0; k <= 60; k++) {
            x.mast(k, k == 0 || k == 60 ? 5 : 10);
        }
        return x;
    }

    /** The call does nothing; no load and no wind is another one behind it. */
    private static void leavesMast(String text, Bounds.Call call, long want) {
        bounds.nothing(text, WINDY, call, want);
        Loft x = windy();
        call.on(x);
        due.is(text + ", no load is less", x.bears(), -1);
        for (int k = 0; k <= 60; k++) {
            due.is(text + ", push " + k, x.push(k), k == 0 || k == 60 ? 20 : 40);
        }
        for (int y = 0; y < 60; y++) {
            x.wind(y, 2);
            due.is(text + ", no load is more", x.bears(), y);
            x.wind(y, 1);
        }
        x.mast(59, 1000);
        x.wind(59, 2);
        due.is(text + ", nor the last", x.bears(), 60);
    }

    private static void heightsOfTheMast() {
        due.about("22 heights 0 to 60");
        for (int k : new int[] {Bounds.LOW, -1, 61, Bounds.HIGH}) {
            leavesMast("k " + k, x -> Bounds.bit(x.mast(k, 0)), 0);
            leavesMast("k " + k, x -> Bounds.bit(x.mast(k, 1000)), 0);
        }
        for (int k : new int[] {0, 60}) {
            Loft x = windy();
            due.yes("mast", x.mast(k, 4));
            due.is("breaks", x.bears(), k);
            due.yes("mast", x.mast(k, 5));
            due.is("bears", x.bears(), -1);
        }
    }

    private static void loadsOfTheMast() {
        due.about("22 LOADS of 0 to 2,000,000,000");
        for (int load : new int[] {Bounds.LOW, -1, MOST_LOAD + 1, Bounds.HIGH}) {
            for (int k : new int[] {0, 30, 60}) {
                leavesMast("load " + load, x -> Bounds.bit(x.mast(k, load)), 0);
            }
        }
        Loft x = windy();
        due.yes("the least", x.mast(7, 0));
        due.is("breaks", x.bears(), 7);
        due.yes("the most", x.mast(7, MOST_LOAD));
        due.is("bears", x.bears(), -1);
        x.wind(7, 1000);
        due.is("bears more, but not the next", x.bears(), 8);
    }

    private static void mastAtEachHeight() {
        due.about("22 the mast's LOAD at a height");
        Loft x = windy();
        for (int k = 0; k <= 60; k++) {
            int load = k == 0 || k == 60 ? 5 : 10;
            due.yes("less", x.mast(k, load - 1));
            due.is("breaks there", x.bears(), k);
            due.yes("as it was", x.mast(k, load));
            due.is("bears", x.bears(), -1);
        }
    }

    private static void loadsAtFirst() {
        due.about("22 at first that");
        Loft x = greatest();
        due.is("bears the greatest PUSH", x.bears(), -1);
        due.is("with no reef", x.least(), 0);
    }

    private static void stripsOfTheWind() {
        due.about("23 strips 0 to 59");
        for (int y : new int[] {Bounds.LOW, -1, 60, 61, Bounds.HIGH}) {
            leavesMast("y " + y, x -> Bounds.bit(x.wind(y, 0)), 0);
            leavesMast("y " + y, x -> Bounds.bit(x.wind(y, 1000)), 0);
        }
    }

    private static void pushesOfTheWind() {
        due.about("23 a push of 0 to 1,000");
        for (int push : new int[] {Bounds.LOW, -1, 1001, Bounds.HIGH}) {
            for (int y : new int[] {0, 30, 59}) {
                leavesMast("push " + push, x -> Bounds.bit(x.wind(y, push)), 0);
            }
        }
        for (int y : new int[] {0, 30, 59}) {
            Loft x = windy();
            due.yes("the least", x.wind(y, 0));
            due.is("push", x.push(y), y == 0 ? 0 : 20);
            due.is("push", x.push(y + 1), y == 59 ? 0 : 20);
            due.yes("the most", x.wind(y, 1000));
            due.is("push", x.push(y), y == 0 ? 20000 : 20020);
            due.is("push", x.push(y + 1), y == 59 ? 20000 : 20020);
        }
    }

    private static void windAtEachStrip() {
        due.about("23 the WIND at a strip");
        Loft x = windy();
        for (int y = 0; y < 60; y++) {
            due.yes("wind", x.wind(y, 3));
            due.is("at its lower height", x.push(y), y == 0 ? 60 : 80);
            due.is("at its upper height", x.push(y + 1), y == 59 ? 60 : 80);
            due.yes("wind", x.wind(y, 1));
        }
    }

    private static void windAtFirst() {
        due.about("23 at first 0");
        Loft x = new Loft();
        x.sail(0, 10, 0, 10, 60);
        x.cut(0, 20, 1);
        x.set(0, true);
        for (int k = 0; k <= 60; k++) {
            due.is("push " + k, x.push(k), 0);
            x.mast(k, 0);
        }
        due.is("bears", x.bears(), -1);
    }

    private static void mastAndWindAreNoActs() {
        due.about("22 and 23 as they are");
        Loft x = Lofts.plain();
        x.set(0, true);
        due.yes("mast", x.mast(3, 0));
        due.yes("wind", x.wind(3, 7));
        due.is("no acts", x.count(2), 5);
        due.is("breaks", x.bears(), 3);
        due.yes("undo", x.undo());
        due.is("what was undone is that it's SET", x.told(0, 5), 0);
        x.set(0, true);
        due.is("the wind stays", x.push(3), 140);
        due.is("the mast stays", x.bears(), 3);
    }

    private static void setOfWhatIsNotCut() {
        due.about("24 a sail that is CUT");
        for (int of : new int[] {0, 1}) {
            boolean is = of == 1;
            bounds.outside("sail", RICH, (x, v) -> Bounds.bit(x.set(v, is)), 0, 2, 0);
            bounds.outside("sail", Lofts::fullOfSails, (x, v) -> Bounds.bit(x.set(v, is)), 0, 9, 0);
            bounds.nothing("OPEN", RICH, x -> Bounds.bit(x.set(2, is)), 0);
            bounds.nothing("TAKEN", RICH, x -> Bounds.bit(x.set(0, is)), 0);
        }
        bounds.act("the last", Lofts::fullOfSails, x -> Bounds.bit(x.set(9, true)), 1);
    }

    private static void setToWhatItIs() {
        due.about("24 or it is so");
        bounds.nothing("SET", RICH, x -> Bounds.bit(x.set(1, true)), 0);
        bounds.act("not any more", RICH, x -> Bounds.bit(x.set(1, false)), 1);
        bounds.nothing("not SET", PLAIN, x -> Bounds.bit(x.set(0, false)), 0);
        bounds.act("SET", PLAIN, x -> Bounds.bit(x.set(0, true)), 1);
    }

    private static void linesOfAReef() {
        due.about("25 a line of 0 to H");
        bounds.yesRange("line", RICH, (x, v) -> Bounds.bit(x.reef(1, v)), 0, 12);
        bounds.yesRange("line", PLAIN, (x, v) -> Bounds.bit(x.reef(0, v)), 1, 10);
        for (int line : new int[] {1, 10}) {
            Loft x = Lofts.plain();
            x.reef(0, line);
            due.is("REEF", x.told(0, 4), line);
        }
    }

    private static void reefWhereItIs() {
        due.about("25 or it is there");
        bounds.nothing("at first at 0", PLAIN, x -> Bounds.bit(x.reef(0, 0)), 0);
        bounds.nothing("at 3", RICH, x -> Bounds.bit(x.reef(1, 3)), 0);
        bounds.act("just below", RICH, x -> Bounds.bit(x.reef(1, 2)), 1);
        bounds.act("just above", RICH, x -> Bounds.bit(x.reef(1, 4)), 1);
    }

    private static void reefOfWhatIsNotCut() {
        due.about("25 of a sail that is CUT");
        bounds.outside("sail", RICH, (x, v) -> Bounds.bit(x.reef(v, 1)), 0, 2, 0);
        bounds.outside("sail", Lofts::fullOfSails, (x, v) -> Bounds.bit(x.reef(v, 1)), 0, 9, 0);
        bounds.nothing("OPEN", RICH, x -> Bounds.bit(x.reef(2, 4)), 0);
        bounds.nothing("TAKEN", RICH, x -> Bounds.bit(x.reef(0, 4)), 0);
        bounds.act("the last", Lofts::fullOfSails, x -> Bounds.bit(x.reef(9, 2)), 1);
    }

    private static void heightsOfALine() {
        due.about("26 1 to H");
        bounds.range("y", PLAIN, (x, v) -> x.line(0, v), 1, 10, 1, -1);
        bounds.range("y of 2", Lofts::fullOfSails, (x, v) -> x.line(9, v), 1, 2, 1, -1);
        bounds.outside("sail", RICH, (x, v) -> x.line(v, 12), 0, 2, -1);
        bounds.outside("sail", RICH, (x, v) -> x.line(v, 6), 0, 2, -1);
        bounds.outside("sail", Lofts::fullOfSails, (x, v) -> x.line(v, 1), 0, 9, -1);
    }

    private static void linesRise() {
        due.about("26 not above the one before");
        bounds.range("y above 6", RICH, (x, v) -> x.line(1, v), 7, 12, 3, -1);
        bounds.range("y above 4", RICH, (x, v) -> x.line(2, v), 5, 6, 2, -1);
        for (int y : new int[] {0, 1, 2, 3, 5}) {
            bounds.nothing("y " + y, RICH, x -> x.line(1, y), -1);
        }
        Bounds.Start atTheHead = () -> {
            Loft x = Lofts.plain();
            x.line(0, 10);
            return x;
        };
        bounds.nothing("none is above H", atTheHead, x -> x.line(0, 10), -1);
        bounds.nothing("none is above H", atTheHead, x -> x.line(0, 11), -1);
    }

    private static void lines3() {
        due.about("26 or there are 3");
        Bounds.Start three = () -> {
            Loft x = Lofts.plain();
            x.line(0, 1);
            x.line(0, 2);
            x.line(0, 3);
            return x;
        };
        for (int y : new int[] {3, 4, 10}) {
            bounds.nothing("the 4th at " + y, three, x -> x.line(0, y), -1);
        }
        Loft x = three.make();
        due.is("three", x.told(0, 7), 3);
        x.undo();
        due.is("two", x.told(0, 7), 2);
        due.is("not above", x.line(0, 2), -1);
        due.is("the 3rd again", x.line(0, 10), 3);
    }

    private static void lineInEachState() {
        due.about("26 in any state but TAKEN");
        bounds.act("OPEN", RICH, x -> x.line(2, 6), 2);
        bounds.act("CUT", RICH, x -> x.line(1, 12), 3);
        bounds.nothing("TAKEN", RICH, x -> x.line(0, 1), -1);
        bounds.nothing("TAKEN", RICH, x -> x.line(0, 10), -1);
    }

    private static void heightsOfPush() {
        due.about("27 no such height");
        bounds.outside("k", WINDY, (x, v) -> x.push(v), 0, 60, -1);
        bounds.outside("k", Lofts::bare, (x, v) -> x.push(v), 0, 60, -1);
        bounds.nothing("0", WINDY, x -> x.push(0), 20);
        bounds.nothing("60", WINDY, x -> x.push(60), 20);
        bounds.nothing("no sails", Lofts::bare, x -> x.push(60), 0);
    }

    private static void pushOfStripsThatThereAre() {
        due.about("27 the strips k - 1 and k that there are");
        Loft x = new Loft();
        for (int y = 0; y < 60; y++) {
            x.wind(y, y + 1);
        }
        x.sail(0, 1, 0, 1, 1);
        x.cut(0, 2, 1);
        x.set(0, true);
        long[] want = {2, 2, 0};
        for (int k = 0; k <= 2; k++) {
            due.is("one strip, at " + k, x.push(k), want[k]);
        }
        x.sail(0, 1, 0, 2, 3);
        x.cut(1, 4, 1);
        x.set(1, true);
        long[] more = {2 + 2, 2 + 2 + 4, 4 + 9, 9, 0};
        for (int k = 0; k <= 4; k++) {
            due.is("two sails, at " + k, x.push(k), more[k]);
        }
    }

    private static void pushOfWhatNoReefTakes() {
        due.about("27 a REEF takes off the strips below it");
        for (int line = 0; line <= 10; line++) {
            Loft x = Lofts.plain();
            for (int y = 0; y < 10; y++) {
                x.wind(y, 1);
            }
            x.set(0, true);
            x.reef(0, line);
            for (int k = 0; k <= 11; k++) {
                int below = k - 1 >= line && k - 1 < 10 ? 20 : 0;
                int above = k >= line && k < 10 ? 20 : 0;
                due.is("a REEF at " + line + ", push " + k, x.push(k), below + above);
            }
        }
    }

    private static void pushOfWhatIsSet() {
        due.about("27 of all sails that are SET");
        Loft x = new Loft();
        x.wind(0, 1);
        for (int s = 0; s < 10; s++) {
            int wide = 5 * (s + 1) * (s + 1);
            x.sail(0, wide, 0, wide, 1);
            x.cut(s, 2, 1);
        }
        long sum = 0;
        for (int s = 0; s < 10; s++) {
            due.is("push", x.push(0), sum);
            x.set(s, true);
            sum += 10 * (s + 1) * (s + 1);
        }
        due.is("all ten", x.push(1), sum);
        x.set(4, false);
        due.is("but one", x.push(1), sum - 250);
        Loft taken = Lofts.plain();
        taken.wind(0, 1);
        taken.set(0, true);
        taken.plan(0);
        due.is("SET", taken.push(0), 20);
        taken.take(0);
        due.is("TAKEN", taken.push(0), 0);
    }

    /** Ten sails as wide as can be, SET in the strongest wind. */
    private static Loft greatest() {
        Loft x = new Loft();
        x.wind(0, 1000);
        x.wind(1, 1000);
        for (int s = 0; s < 10; s++) {
            x.sail(-500, 500, -500, 500, 2);
            x.edge(s, 0, 3);
            x.edge(s, 1, 3);
            for (int y = 0; y < 3; y++) {
                x.stand(s, 0, y, -200);
                x.stand(s, 1, y, 200);
            }
            x.cut(s, 20, 1);
            x.set(s, true);
        }
        return x;
    }

    private static void theGreatestPush() {
        due.about("27 the greatest PUSH");
        Loft x = greatest();
        due.is("at the foot", x.push(0), 28000000);
        due.is("between", x.push(1), 56000000);
        due.is("at the head", x.push(2), 28000000);
        x.mast(1, 14000000);
        due.is("bears", x.bears(), -1);
        x.mast(1, 13999999);
        due.is("breaks", x.bears(), 1);
    }

    /** A sail whose PUSH at height 0 is that many quarters. */
    private static Loft quarters(int many) {
        Loft x = new Loft();
        x.sail(0, many / 2, 0, many - many / 2, 1);
        x.cut(0, 2, 1);
        x.set(0, true);
        x.wind(0, 1);
        return x;
    }

    private static void bearsFourTimesItsLoad() {
        due.about("28 above four times its LOAD");
        for (int load = 1; load <= 3; load++) {
            for (int many = 4 * load - 1; many <= 4 * load + 1; many++) {
                Loft x = quarters(many);
                x.mast(0, load);
                due.is("PUSH", x.push(0), many);
                due.is(many + " on " + load, x.bears(), many > 4 * load ? 0 : -1);
                due.is("least", x.least(), many > 4 * load ? -1 : 0);
                x.mast(0, MOST_LOAD);
                x.mast(1, load);
                due.is(many + " on " + load, x.bears(), many > 4 * load ? 1 : -1);
            }
        }
        Loft none = new Loft();
        none.mast(0, 0);
        due.is("no PUSH on a LOAD of 0", none.bears(), -1);
        Loft x = quarters(2);
        x.mast(0, 0);
        due.is("some on a LOAD of 0", x.bears(), 0);
    }

    private static void bearsTheGreatestLoads() {
        due.about("28 four times the greatest LOADS");
        int[] loads = {536870911, 536870912, 1073741823, 1073741824, 1610612736, MOST_LOAD};
        for (int load : loads) {
            Loft x = greatest();
            for (int k = 0; k <= 60; k++) {
                x.mast(k, load);
            }
            due.is("load " + load, x.bears(), -1);
            due.is("load " + load, x.least(), 0);
        }
    }

    private static void bearsTheFirstHeight() {
        due.about("28 the first height that BREAKS");
        Loft x = windy();
        due.is("none", x.bears(), -1);
        for (int k = 60; k >= 0; k--) {
            x.mast(k, 0);
            due.is("from " + k + " on", x.bears(), k);
        }
        for (int k = 0; k <= 59; k++) {
            x.mast(k, 10);
            due.is("from " + (k + 1) + " on", x.bears(), k + 1);
        }
        x.mast(60, 10);
        due.is("none", x.bears(), -1);
    }

    /** Plain, SET, with lines at 2, 6 and 10 in a wind of 1 at strip y, which the mast doesn't bear. */
    private static Loft lined(int y) {
        Loft x = Lofts.plain();
        x.set(0, true);
        x.line(0, 2);
        x.line(0, 6);
        x.line(0, 10);
        x.wind(y, 1);
        x.mast(y, 4);
        return x;
    }

    private static void leastAsItIs() {
        due.about("29 0: as it is");
        bounds.nothing("no sails", Lofts::bare, x -> x.least(), 0);
        bounds.nothing("nothing BREAKS", WINDY, x -> x.least(), 0);
        Loft x = lined(0);
        due.is("one quarter of a square too many", x.least(), 1);
        x.mast(0, 5);
        due.is("just borne", x.least(), 0);
    }

    private static void leastNotWithAll() {
        due.about("29 NONE: not with all");
        Loft x = windy();
        x.mast(60, 4);
        due.is("no REEF LINES", x.least(), -1);
        x.line(0, 58);
        x.line(0, 59);
        due.is("the last strip stays", x.least(), -1);
        x.line(0, 60);
        due.is("with all", x.least(), 3);
        x.set(0, false);
        due.is("not SET", x.least(), 0);
    }

    private static void leastTakesLinesAboveTheReef() {
        due.about("29 its next REEF LINE that is above its REEF");
        int[] reefs = {0, 1, 2, 3, 5, 6, 7, 9};
        int[] want = {3, 3, 2, 2, 2, 1, 1, 1};
        for (int r = 0; r < reefs.length; r++) {
            Loft x = lined(9);
            x.reef(0, reefs[r]);
            due.is("from " + reefs[r], x.least(), want[r]);
            due.is("the REEF stays", x.told(0, 4), reefs[r]);
        }
        for (int y = 0; y < 10; y++) {
            due.is("wind at " + y, lined(y).least(), y < 2 ? 1 : y < 6 ? 2 : 3);
        }
        Loft x = Lofts.plain();
        x.set(0, true);
        x.line(0, 2);
        x.line(0, 6);
        x.wind(5, 1);
        x.wind(9, 1);
        x.mast(9, 4);
        x.reef(0, 6);
        due.is("none is above", x.least(), -1);
        x.reef(0, 8);
        due.is("none is above", x.least(), -1);
        x.reef(0, 10);
        due.is("all is taken off", x.least(), 0);
    }

    private static void leastRoundByRound() {
        due.about("29 by numbers, one reef each that has one, round by round");
        Loft x = new Loft();
        int[][] lines = {{4, 9}, {2}, {}, {3, 5, 9}, {9}};
        for (int s = 0; s < lines.length; s++) {
            x.sail(0, 10, 0, 10, 10);
            x.cut(s, 5, 1);
            x.set(s, true);
            for (int line : lines[s]) {
                x.line(s, line);
            }
        }
        x.set(4, false);
        // Reefs 1, 2 and 3 are those of sails 0, 1 and 3; then 4 and 5 of 0 and 3; then 6 of 3.
        int[] want = {3, 3, 3, 5, 5, 6, 6, 6, 6};
        for (int y = 0; y < 9; y++) {
            int sailsLeft = y < 2 ? 1 : 2;
            x.wind(y, 1);
            x.mast(y, 5 * sailsLeft);
            due.is("wind at " + y, x.least(), want[y]);
            x.mast(y, 5 * sailsLeft - 1);
            due.is("wind at " + y + ", not with all", x.least(), -1);
            x.mast(y, MOST_LOAD);
            x.wind(y, 0);
        }
    }

    private static void leastStopsAtOnce() {
        due.about("29 the fewest reefs taken one by one");
        Loft x = new Loft();
        for (int s = 0; s < 10; s++) {
            x.sail(0, 10, 0, 10, 10);
            x.cut(s, 5, 1);
            x.set(s, true);
            x.line(s, 1);
        }
        x.wind(0, 1);
        for (int load = 50; load >= 0; load--) {
            x.mast(0, load);
            due.is("load " + load, x.least(), 10 - load / 5);
        }
        x.reef(3, 1);
        x.reef(9, 10);
        x.mast(0, 40);
        due.is("two reefs less are borne", x.least(), 0);
        x.mast(0, 39);
        due.is("one more", x.least(), 1);
        x.mast(0, 24);
        due.is("sail 3 has none more", x.least(), 4);
    }

    private static void leastOfAllThereCanBe() {
        due.about("29 ten sails with 3 lines each");
        Loft x = new Loft();
        for (int s = 0; s < 10; s++) {
            x.sail(0, 1, 0, 1, 60);
            x.cut(s, 20, 1);
            x.set(s, true);
            x.line(s, 1);
            x.line(s, 2);
            x.line(s, 60);
        }
        x.wind(59, 2);
        x.mast(60, 0);
        due.is("all thirty", x.least(), 30);
        x.mast(60, 1);
        due.is("but one", x.least(), 29);
        x.wind(1, 2);
        x.mast(1, 0);
        due.is("the later of both", x.least(), 29);
        x.mast(60, MOST_LOAD);
        due.is("the earlier", x.least(), 20);
    }

    private static void leastChangesNothing() {
        due.about("29 nothing is changed");
        bounds.nothing("two reefs", () -> lined(3), x -> x.least(), 2);
        bounds.nothing("not with all", () -> {
            Loft x = lined(3);
            x.sail(0, 10, 0, 10, 10);
            x.cut(1, 5, 1);
            x.set(1, true);
            return x;
        }, x -> x.least(), -1);
        bounds.nothing("rich", RICH, x -> x.least(), 1);
    }
}
