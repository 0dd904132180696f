/** Lofts to begin a test with. */
final class Lofts {
    private Lofts() {
    }

    static int bits(float value) {
        return Float.floatToIntBits(value);
    }

    /** Nothing but what the constructor makes. */
    static Loft bare() {
        return new Loft();
    }

    /** Two bolts of 20 by 200, and a sail 10 wide and 10 high that is cut in 3: four acts. */
    static Loft plain() {
        Loft x = new Loft();
        x.bolt(20, 200, bits(1f));
        x.bolt(20, 200, bits(2f));
        x.sail(0, 10, 0, 10, 10);
        x.cut(0, 5, 1);
        return x;
    }

    /** Sails in each state (0 TAKEN, 1 CUT, 2 OPEN), bolts with things on them (0, 3), a worn one (1,
     *  with a ROW of 25), a small one (2), old ones (3 to 5), and more acts than can be undone. */
    static Loft rich() {
        Loft x = new Loft();
        x.bolt(20, 200, bits(1f));
        x.bolt(5, 30, bits(2f));
        x.bolt(4, 12, bits(0.5f));
        x.row(1, 25);
        x.wear(1, 24, 60);
        x.wear(1, 3, 100);
        x.sail(0, 10, 0, 10, 10);
        x.cut(0, 5, 1);
        x.set(0, true);
        x.plan(50);
        x.take(0);
        x.sail(-5, 5, -3, 3, 12);
        x.cut(1, 5, 1);
        x.line(1, 2);
        x.line(1, 6);
        x.patch(1, 3, 2, 7);
        x.narrow(1, 0, 9);
        x.sail(0, 8, 2, 9, 6);
        x.edge(2, 0, 7);
        x.edge(2, 1, 3);
        x.stand(2, 0, 6, -4);
        x.stand(2, 1, 2, 5);
        x.line(2, 4);
        x.lay(1, 1, 3, 0, 0);
        x.lay(1, 0, 0, 100, 100);
        x.reef(1, 3);
        x.set(1, true);
        x.wind(3, 10);
        x.wind(5, 7);
        x.mast(6, 20);
        return x;
    }

    /** 24 bolts, of 2 by 5 but for the first, and a sail of one panel that is laid. */
    static Loft fullOfBolts() {
        Loft x = new Loft();
        x.bolt(20, 200, bits(3f));
        x.sail(0, 10, 0, 10, 4);
        x.cut(0, 5, 1);
        for (int b = 1; b < 24; b++) {
            x.bolt(2, 5, 0);
        }
        x.lay(0, 0, 0, 7, 0);
        return x;
    }

    /** Ten sails, 3 wide and 2 high, the last one cut. */
    static Loft fullOfSails() {
        Loft x = new Loft();
        x.bolt(20, 200, bits(3f));
        for (int s = 0; s < 10; s++) {
            x.sail(0, 3, 0, 3, 2);
        }
        x.cut(9, 5, 1);
        return x;
    }
}
