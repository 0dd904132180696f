import java.util.ArrayList;
import java.util.List;
import java.util.function.Consumer;

/** All that calls can tell of a loft, in views of less than 400 calls: each is used on an object of its
 *  own, so a view may change what it looks at. */
final class Look {
    private static final int PLACES = 200;
    private static final int HEIGHTS = 60;
    private static final int PIECES = 40;

    private Look() {
    }

    static List<Consumer<Loft>> views(int bolts, int sails) {
        List<Consumer<Loft>> views = new ArrayList<>();
        views.add(Look::wholes);
        for (int b = 0; b < bolts; b++) {
            int bolt = b;
            views.add(x -> wornPlaces(x, bolt));
            views.add(x -> takenPlaces(x, bolt));
            views.add(x -> rowEnd(x, bolt));
            views.add(x -> widthAndGrams(x, bolt));
        }
        for (int s = 0; s < sails; s++) {
            int sail = s;
            views.add(x -> heights(x, sail));
            views.add(x -> pieces(x, sail, 0, 4));
            views.add(x -> pieces(x, sail, 5, 9));
            views.add(x -> rowEnds(x, sail));
            views.add(x -> reefLines(x, sail));
        }
        return views;
    }

    /** How many acts there are; the other views don't ask this. */
    static void acts(Loft x) {
        x.count(2);
    }

    private static void wholes(Loft x) {
        int bolts = x.count(0);
        int sails = x.count(1);
        for (int b = 0; b < bolts; b++) {
            x.left(b);
            x.old(b);
        }
        for (int s = 0; s < sails; s++) {
            for (int what = 0; what <= 8; what++) {
                x.told(s, what);
            }
            x.fewest(s, 100);
        }
        for (int k = 0; k <= HEIGHTS; k++) {
            x.push(k);
        }
        x.bears();
        x.least();
    }

    private static void wornPlaces(Loft x, int bolt) {
        for (int k = 0; k <= PLACES; k++) {
            x.worn(bolt, k);
        }
    }

    private static void takenPlaces(Loft x, int bolt) {
        for (int k = 0; k <= PLACES; k++) {
            x.over(bolt, k);
        }
    }

    private static void rowEnd(Loft x, int bolt) {
        for (int k = 0; k <= PLACES; k++) {
            x.wear(bolt, k, 0);
        }
    }

    // A bolt's width shows in the broadest patch that it takes, its grams in the weight of that.
    private static void widthAndGrams(Loft x, int bolt) {
        int sail = x.sail(0, 1, 0, 1, 1);
        x.cut(sail, 2, 1);
        int place = 0;
        while (place < PLACES && x.over(bolt, place) != SailLoft.NONE) {
            place++;
        }
        for (int breadth = 20; breadth >= 1; breadth--) {
            int i = x.patch(sail, 0, breadth, 1);
            if (x.lay(sail, i, bolt, place, 100)) {
                x.panel(sail, i, 8);
                return;
            }
        }
    }

    private static void heights(Loft x, int sail) {
        for (int y = 0; y <= HEIGHTS + 1; y++) {
            x.at(sail, 0, y);
            x.at(sail, 1, y);
            x.full(sail, y);
        }
    }

    private static void pieces(Loft x, int sail, int firstWhat, int lastWhat) {
        for (int i = 0; i <= PIECES; i++) {
            for (int what = firstWhat; what <= lastWhat; what++) {
                x.panel(sail, i, what);
            }
        }
    }

    private static void rowEnds(Loft x, int sail) {
        for (int y = 0; y <= HEIGHTS + 1; y++) {
            x.stand(sail, 0, y, 0);
            x.stand(sail, 1, y, 0);
        }
    }

    // With this sail alone in a wind at one strip, and a mast that bears nothing, the reefs that are
    // needed tell which REEF LINE is the first above that strip.
    private static void reefLines(Loft x, int sail) {
        x.cut(sail, 20, 1);
        for (int s = 0; s < x.count(1); s++) {
            x.set(s, s == sail);
        }
        x.reef(sail, 0);
        for (int k = 0; k <= HEIGHTS; k++) {
            x.mast(k, 0);
            x.wind(k, 0);
        }
        int height = x.told(sail, 8);
        for (int y = 0; y < height; y++) {
            x.wind(y, 1);
            x.least();
            x.wind(y, 0);
        }
    }
}
