import java.util.ArrayList;
import java.util.List;

/** The bounds of taking and of ACTS: promises 30, 32 and 33. */
public final class ActBoundsTest {
    private static final Bounds.Start RICH = Lofts::rich;

    private static final Due due = new Due();
    private static final Bounds bounds = new Bounds(due);

    public static void main(String[] args) {
        takeOfWhatIsNotCut();
        takeOfWhatIsNotAllLaid();
        takeUpTo24Bolts();
        takeGivesWidthsOf2AtLeast();
        takeGivesLengthsOf200AtMost();
        takeGivesGramsAndNoRow();
        takeLeavesThePlaces();
        takeIsNotSetAnyMore();
        takeOfWhatLiesOnOldBolts();
        undoOfNone();
        undoOf16();
        undoGoesRoundTheRing();
        undoOfEachActAsThe16th();
        undoIsNoAct();
        whatIsNoAct();
        planIsAnActIfItLaidSomething();
        sameAgainIsAnAct();
        counts();
        countOfActsAtMost16();
        due.end();
    }

    /** Plain with all laid: three pieces on two bolts. */
    private static Loft allLaid() {
        Loft x = Lofts.plain();
        x.lay(0, 0, 0, 0, 0);
        x.lay(0, 1, 1, 5, 0);
        x.lay(0, 2, 1, 190, 0);
        return x;
    }

    private static void takeOfWhatIsNotCut() {
        due.about("30 a sail that is CUT");
        bounds.outside("sail", RICH, (x, v) -> x.take(v), 0, 2, -1);
        bounds.outside("sail", Lofts::fullOfSails, (x, v) -> x.take(v), 0, 9, -1);
        bounds.nothing("OPEN", RICH, x -> x.take(2), -1);
        bounds.nothing("TAKEN", RICH, x -> x.take(0), -1);
        bounds.act("CUT", ActBoundsTest::allLaid, x -> x.take(0), 3);
    }

    private static void takeOfWhatIsNotAllLaid() {
        due.about("30 of which all is laid");
        for (int i = 0; i < 3; i++) {
            int lifted = i;
            Bounds.Start start = () -> {
                Loft x = allLaid();
                x.lift(0, lifted);
                return x;
            };
            bounds.nothing("all but " + i, start, x -> x.take(0), -1);
        }
        Bounds.Start patched = () -> {
            Loft x = allLaid();
            x.patch(0, 0, 1, 1);
            return x;
        };
        bounds.nothing("all but the PATCH", patched, x -> x.take(0), -1);
        bounds.nothing("nothing is", Lofts::plain, x -> x.take(0), -1);
        Bounds.Start patchLaid = () -> {
            Loft x = patched.make();
            x.lay(0, 3, 0, 100, 0);
            return x;
        };
        bounds.act("the PATCH too", patchLaid, x -> x.take(0), 4);
    }

    private static Bounds.Start laidBeside(int bolts) {
        return () -> {
            Loft x = allLaid();
            x.set(0, true);
            x.line(0, 4);
            x.reef(0, 2);
            for (int b = 2; b < bolts; b++) {
                x.bolt(2, b, 0);
            }
            return x;
        };
    }

    private static void takeUpTo24Bolts() {
        due.about("30 there would be more than 24 bolts");
        bounds.act("21 and 3", laidBeside(21), x -> x.take(0), 3);
        bounds.nothing("22 and 3", laidBeside(22), x -> x.take(0), -1);
        bounds.nothing("24 and 3", laidBeside(24), x -> x.take(0), -1);
        bounds.nothing("24 and 1", Lofts::fullOfBolts, x -> x.take(0), -1);
        Loft x = laidBeside(21).make();
        x.take(0);
        due.is("bolts", x.count(0), 24);
        due.is("the 24th came from it", x.old(23), 0);
        due.is("the 21st didn't", x.old(20), -1);
        x.undo();
        due.is("bolts", x.count(0), 21);
        due.is("not any more", x.left(21), -1);
        Loft forty = Lofts.plain();
        for (int i = 3; i < 40; i++) {
            forty.patch(0, 0, 1, 1);
        }
        forty.plan(0);
        due.is("2 and 40", forty.take(0), -1);
    }

    private static void takeGivesWidthsOf2AtLeast() {
        due.about("30 WIDTH: the breadth, 2 at least");
        int[] breadths = {1, 2, 3, 19, 20};
        Loft x = Lofts.plain();
        x.sail(0, 1, 0, 1, 1);
        x.cut(1, 2, 1);
        for (int breadth : breadths) {
            x.patch(1, 0, breadth, 1);
        }
        x.plan(0);
        x.lift(0, 0);
        due.is("take", x.take(1), 6);
        int[] widths = {2, 2, 2, 3, 19, 20};
        for (int b = 0; b < 6; b++) {
            if (widths[b] < 20) {
                int broad = x.patch(0, 0, widths[b] + 1, 1);
                due.no("too broad for " + b, x.lay(0, broad, 2 + b, 0, 0));
            }
            int fits = x.patch(0, 0, widths[b], 1);
            due.yes("fits on " + b, x.lay(0, fits, 2 + b, 0, 0));
        }
    }

    private static void takeGivesLengthsOf200AtMost() {
        due.about("30 LENGTH: the length, 200 at most");
        for (int wide : new int[] {1, 199, 200}) {
            Loft x = Lofts.plain();
            x.sail(0, wide, 0, wide, 5);
            x.cut(1, 20, 1);
            x.patch(1, 0, 1, 100);
            x.lay(1, 0, 0, 0, 0);
            x.lay(1, 1, 1, 0, 0);
            due.is("take", x.take(1), 2);
            due.is("of the PANEL", x.left(2), wide);
            due.is("its last place", x.worn(2, wide - 1), 0);
            due.is("behind it", x.worn(2, wide), -1);
            due.is("of the PATCH", x.left(3), 100);
        }
    }

    private static void takeGivesGramsAndNoRow() {
        due.about("30 GRAMS of the bolt on which each lay; no ROW");
        Loft x = new Loft();
        x.bolt(20, 30, Lofts.bits(1000f));
        x.bolt(20, 30, Lofts.bits(0.75f));
        x.row(0, 30);
        x.wear(0, 0, 100);
        x.row(1, 30);
        x.wear(1, 2, 50);
        x.sail(0, 10, 0, 10, 8);
        x.cut(0, 5, 1);
        x.lay(0, 0, 1, 0, 100);
        x.lay(0, 1, 0, 0, 100);
        due.is("take", x.take(0), 2);
        for (int b = 2; b <= 3; b++) {
            due.is("not worn", x.worn(b, 0) + x.worn(b, 2), 0);
            due.no("no ROW", x.wear(b, 0, 1));
        }
        x.sail(0, 2, 0, 2, 2);
        x.cut(1, 3, 1);
        x.lay(1, 0, 2, 0, 0);
        due.is("the first's GRAMS", x.panel(1, 0, 8), 3);
        x.lift(1, 0);
        x.lay(1, 0, 3, 8, 0);
        due.is("the second's GRAMS", x.panel(1, 0, 8), 4000);
    }

    private static void takeLeavesThePlaces() {
        due.about("30 their places on bolts stay theirs");
        Loft x = allLaid();
        x.take(0);
        due.is("first", x.over(0, 0), 0);
        due.is("last", x.over(1, 199), 2);
        due.is("left", x.left(0), 190);
        due.is("left", x.left(1), 180);
        due.is("bolt", x.panel(0, 2, 6), 1);
        due.is("place", x.panel(0, 2, 7), 190);
        due.is("WEIGHT", x.told(0, 6), 40 + 80 + 40);
        due.is("nothing lies on the new ones", x.left(2) + x.left(3) + x.left(4), 30);
        due.no("lift", x.lift(0, 0));
    }

    private static void takeIsNotSetAnyMore() {
        due.about("30 it's not SET any more");
        for (int set = 0; set <= 1; set++) {
            boolean is = set == 1;
            Bounds.Start start = () -> {
                Loft x = allLaid();
                x.set(0, true);
                x.reef(0, 4);
                x.line(0, 5);
                x.wind(5, 3);
                x.mast(5, 1);
                if (!is) {
                    x.set(0, false);
                }
                return x;
            };
            bounds.act("SET or not", start, x -> x.take(0), 3);
            Loft x = start.make();
            due.is("PUSH", x.push(5), 60 * set);
            x.take(0);
            due.is("state", x.told(0, 0), 2);
            due.is("not SET", x.told(0, 5), 0);
            due.is("no PUSH", x.push(5), 0);
            due.is("bears", x.bears(), -1);
            x.undo();
            due.is("as it was", x.told(0, 5), set);
            due.is("PUSH", x.push(5), 60 * set);
        }
    }

    private static void takeOfWhatLiesOnOldBolts() {
        due.about("30 old sails become cloth again and again");
        Loft x = new Loft();
        x.bolt(20, 200, Lofts.bits(2f));
        for (int s = 0; s < 10; s++) {
            x.sail(0, 10, 0, 10, 1);
            x.cut(s, 20, 19);
            due.yes("lay", x.lay(s, 0, s, 0, 0));
            due.is("KIND", x.panel(s, 0, 0), s == 0 ? 0 : 3);
            due.is("WEIGHT", x.panel(s, 0, 8), 20);
            due.is("take", x.take(s), 1);
            due.is("from", x.old(s + 1), s);
            due.is("length", x.left(s + 1), 10);
            due.is("what it lies on", x.left(s), s == 0 ? 190 : 0);
        }
        for (int s = 9; s >= 6; s--) {
            for (int act = 0; act < 4; act++) {
                due.yes("undo", x.undo());
            }
            due.is("sails", x.count(1), s);
            due.is("bolts", x.count(0), s + 1);
            due.is("nothing lies on the last", x.left(s), 10);
        }
        due.no("no more than 16", x.undo());
    }

    private static void undoOfNone() {
        due.about("32 false: none can be");
        bounds.nothing("a new object", Lofts::bare, x -> Bounds.bit(x.undo()), 0);
        Bounds.Start undone = () -> {
            Loft x = Lofts.plain();
            for (int u = 0; u < 4; u++) {
                x.undo();
            }
            return x;
        };
        bounds.nothing("all is undone", undone, x -> Bounds.bit(x.undo()), 0);
        Bounds.Start oldest = () -> {
            Loft x = Lofts.rich();
            for (int u = 0; u < 16; u++) {
                x.undo();
            }
            return x;
        };
        bounds.nothing("what is older can't be", oldest, x -> Bounds.bit(x.undo()), 0);
        Bounds.Start windy = () -> {
            Loft x = new Loft();
            x.mast(0, 0);
            x.wind(0, 5);
            return x;
        };
        bounds.nothing("the mast and the wind can't be", windy, x -> Bounds.bit(x.undo()), 0);
    }

    private static void undoOf16() {
        due.about("32 the latest 16 can be undone");
        for (int many = 14; many <= 19; many++) {
            Loft x = new Loft();
            for (int b = 0; b < many; b++) {
                x.bolt(2, 1 + b, 0);
            }
            int can = Math.min(16, many);
            due.is("acts of " + many, x.count(2), can);
            for (int u = 1; u <= can; u++) {
                due.yes("undo " + u + " of " + many, x.undo());
                due.is("bolts", x.count(0), many - u);
                due.is("acts", x.count(2), can - u);
            }
            due.no("one more", x.undo());
            due.is("bolts", x.count(0), many - can);
        }
    }

    private static void undoGoesRoundTheRing() {
        due.about("32 many times round");
        Loft x = new Loft();
        x.bolt(2, 1, 0);
        x.row(0, 1);
        int v = 0;
        int acts = 2;
        for (int round = 1; round <= 12; round++) {
            for (int a = 0; a < round; a++) {
                v++;
                acts = Math.min(16, acts + 1);
                x.wear(0, 0, v);
            }
            for (int u = 0; u < round / 2; u++) {
                v--;
                acts--;
                due.yes("undo", x.undo());
                due.is("worn", x.worn(0, 0), v);
            }
            due.is("acts", x.count(2), acts);
        }
        while (acts > 0) {
            v--;
            acts--;
            due.yes("undo", x.undo());
            due.is("worn", x.worn(0, 0), v);
        }
        due.no("no more", x.undo());
        due.is("worn", x.worn(0, 0), v);
    }

    /** One of each kind of act, on a loft in which all of them can be done in this order. */
    private static List<Bounds.Call> oneOfEach() {
        List<Bounds.Call> acts = new ArrayList<>();
        acts.add(x -> x.bolt(20, 90, Lofts.bits(3f)));
        acts.add(x -> Bounds.bit(x.row(1, 9)));
        acts.add(x -> Bounds.bit(x.wear(1, 8, 9)));
        acts.add(x -> x.sail(1, 9, 2, 8, 9));
        acts.add(x -> Bounds.bit(x.edge(2, 1, 5)));
        acts.add(x -> Bounds.bit(x.stand(2, 1, 2, -6)));
        acts.add(x -> x.cut(2, 4, 2));
        acts.add(x -> Bounds.bit(x.narrow(1, 1, 8)));
        acts.add(x -> x.patch(1, 11, 2, 2));
        acts.add(x -> Bounds.bit(x.lay(1, 4, 2, 1, 50)));
        acts.add(x -> Bounds.bit(x.lift(1, 0)));
        acts.add(x -> Bounds.bit(x.set(1, false)));
        acts.add(x -> Bounds.bit(x.reef(1, 11)));
        acts.add(x -> x.line(1, 11));
        acts.add(x -> x.plan(100));
        acts.add(x -> x.take(1));
        return acts;
    }

    private static void undoOfEachActAsThe16th() {
        due.about("32 each act, with up to 15 behind it");
        List<Bounds.Call> acts = oneOfEach();
        due.is("kinds of acts", acts.size(), 16);
        for (int many = 1; many <= 16; many++) {
            int some = many;
            Bounds.Call call = x -> {
                for (int a = 0; a < some; a++) {
                    acts.get(a).on(x);
                }
                for (int u = 0; u < some; u++) {
                    x.undo();
                }
                return x.count(2);
            };
            bounds.back("undone back from " + many, RICH, call, 16 - some);
        }
        Loft x = Lofts.rich();
        for (int a = 0; a < 16; a++) {
            long answer = acts.get(a).on(x);
            due.yes("act " + a + " isn't refused", answer > 0 || answer == -1 && a == 14);
        }
    }

    private static void undoIsNoAct() {
        due.about("32 the latest act");
        Loft x = Lofts.plain();
        x.set(0, true);
        x.reef(0, 5);
        due.yes("undo", x.undo());
        due.is("the REEF is undone", x.told(0, 4), 0);
        due.yes("undo", x.undo());
        due.is("that isn't, but the SET is", x.told(0, 5), 0);
        due.is("REEF", x.told(0, 4), 0);
        x.reef(0, 7);
        due.yes("undo", x.undo());
        due.is("the new one is undone", x.told(0, 4), 0);
        due.is("the one undone ahead of it doesn't come back", x.told(0, 5), 0);
        due.is("acts", x.count(2), 4);
    }

    private static void whatIsNoAct() {
        due.about("32 ACTS are these calls");
        bounds.nothing("worn", RICH, x -> x.worn(1, 3), 100);
        bounds.nothing("at", RICH, x -> x.at(2, 1, 2), 13);
        bounds.nothing("told", RICH, x -> x.told(1, 3), 212);
        bounds.nothing("panel", RICH, x -> x.panel(1, 3, 5), 28);
        bounds.nothing("full", RICH, x -> x.full(1, 4), 9);
        bounds.nothing("left", RICH, x -> x.left(0), 160);
        bounds.nothing("over", RICH, x -> x.over(0, 0), 0);
        bounds.nothing("fewest", RICH, x -> x.fewest(1, 0), 2);
        bounds.nothing("mast as it is", RICH, x -> Bounds.bit(x.mast(6, 20)), 1);
        bounds.nothing("wind as it is", RICH, x -> Bounds.bit(x.wind(5, 7)), 1);
        bounds.nothing("push", RICH, x -> x.push(6), 126);
        bounds.nothing("bears", RICH, x -> x.bears(), 6);
        bounds.nothing("least", RICH, x -> x.least(), 1);
        bounds.nothing("old", RICH, x -> x.old(3), 0);
        bounds.nothing("count", RICH, x -> x.count(2), 16);
    }

    private static void planIsAnActIfItLaidSomething() {
        due.about("32 plan (if it laid something)");
        bounds.act("all", Lofts::plain, x -> x.plan(0), -1);
        bounds.act("all", RICH, x -> x.plan(100), -1);
        bounds.nothing("nothing was left", ActBoundsTest::allLaid, x -> x.plan(0), -1);
        Bounds.Start narrow = () -> {
            Loft x = new Loft();
            x.bolt(5, 10, 0);
            x.sail(0, 10, 0, 10, 8);
            x.cut(0, 5, 1);
            return x;
        };
        bounds.act("one of two", narrow, x -> x.plan(0), 1);
        Bounds.Start full = () -> {
            Loft x = narrow.make();
            x.plan(0);
            return x;
        };
        bounds.nothing("none of one", full, x -> x.plan(0), 1);
        Loft x = Lofts.plain();
        x.lay(0, 1, 0, 3, 0);
        x.plan(0);
        x.undo();
        due.is("what was laid ahead of it stays", x.panel(0, 1, 7), 3);
        due.is("what it laid doesn't", x.panel(0, 0, 7) + x.panel(0, 2, 7), -2);
    }

    private static void sameAgainIsAnAct() {
        due.about("32 calls when they aren't refused");
        bounds.act("row", RICH, x -> Bounds.bit(x.row(2, 0)), 1);
        bounds.act("wear", RICH, x -> Bounds.bit(x.wear(1, 24, 60)), 1);
        bounds.act("edge", RICH, x -> Bounds.bit(x.edge(2, 0, 7)), 1);
        bounds.act("stand", RICH, x -> Bounds.bit(x.stand(2, 0, 6, -4)), 1);
        bounds.act("narrow", RICH, x -> Bounds.bit(x.narrow(1, 0, 9)), 1);
    }

    private static void counts() {
        due.about("33 0, 1 and 2; NONE for others");
        bounds.outside("what", RICH, (x, v) -> x.count(v), 0, 2, -1);
        bounds.outside("what", Lofts::bare, (x, v) -> x.count(v), 0, 2, -1);
        bounds.nothing("bolts", RICH, x -> x.count(0), 6);
        bounds.nothing("sails", RICH, x -> x.count(1), 3);
        bounds.nothing("acts", RICH, x -> x.count(2), 16);
        bounds.nothing("the most bolts", Lofts::fullOfBolts, x -> x.count(0), 24);
        bounds.nothing("the most sails", Lofts::fullOfSails, x -> x.count(1), 10);
    }

    private static void countOfActsAtMost16() {
        due.about("33 acts that can be undone");
        Loft x = Lofts.plain();
        for (int a = 5; a <= 40; a++) {
            x.set(0, a % 2 == 1);
            due.is("after " + a, x.count(2), Math.min(16, a));
        }
        x.undo();
        due.is("one less", x.count(2), 15);
        x.reef(0, 1);
        due.is("one more", x.count(2), 16);
        x.reef(0, 2);
        due.is("no more", x.count(2), 16);
    }
}
