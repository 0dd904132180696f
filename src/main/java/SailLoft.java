import java.util.Arrays;

/** A sail loft. What each call must do stands in DOC.md, as numbered promises. */
public final class SailLoft {
    public static final int NONE = -1;

    private static final int NO_EDGE = -10000;
    private static final int NO_PLAN = -2;

    private static final int MOST_BOLTS = 24;
    private static final int LEAST_WIDTH = 2;
    private static final int MOST_WIDTH = 20;
    private static final int MOST_LENGTH = 200;
    private static final int MOST_WORN = 100;
    private static final int MOST_SAILS = 10;
    private static final int MOST_PIECES = 40;
    private static final int MOST_HEIGHT = 60;
    private static final int MOST_X = 500;
    private static final int MOST_STAND = 200;
    private static final int MOST_LET = 50;
    private static final int MOST_PATCH_LENGTH = 100;
    private static final int MOST_LINES = 3;
    private static final int MOST_LOAD = 2000000000;
    private static final int MOST_WIND = 1000;
    private static final int MOST_WEIGHT = 1000000;
    private static final int MOST_ACTS = 16;
    private static final int MOST_PACKED = 8;

    private static final int MINUS_ZERO_BITS = 0x80000000;
    private static final int MOST_GRAMS_BITS = 0x447A0000;
    private static final int FRACTION_BITS = 23;
    private static final int FRACTION_MASK = 0x7FFFFF;
    private static final int LEADING_BIT = 0x800000;
    private static final int WHOLE_EXPONENT = 150;

    private static final int OPEN = 0;
    private static final int CUT = 1;
    private static final int TAKEN = 2;

    private static final int KIND_PANEL = 0;
    private static final int KIND_TAPERED = 1;
    private static final int KIND_PATCH = 2;
    private static final int KIND_OLD = 3;

    private static final int DID_BOLT = 0;
    private static final int DID_ROW = 1;
    private static final int DID_WEAR = 2;
    private static final int DID_SAIL = 3;
    private static final int DID_EDGE = 4;
    private static final int DID_STAND = 5;
    private static final int DID_CUT = 6;
    private static final int DID_NARROW = 7;
    private static final int DID_PATCH = 8;
    private static final int DID_LAY = 9;
    private static final int DID_LIFT = 10;
    private static final int DID_PLAN = 11;
    private static final int DID_SET = 12;
    private static final int DID_REEF = 13;
    private static final int DID_LINE = 14;
    private static final int DID_TAKE = 15;

    // A bolt or sail that undo takes away keeps its object here, for the next of that number.
    private final Bolt[] bolts = new Bolt[MOST_BOLTS];
    private final Sail[] sails = new Sail[MOST_SAILS];
    private int boltCount;
    private int sailCount;
    private final Mast spar = new Mast();
    private final int[] triedReefs = new int[MOST_SAILS];
    private final Log log = new Log();
    private Packing packing;

    public SailLoft() {
        boltCount = 0;
        sailCount = 0;
        packing = null;
    }

    // ---- bolts

    public int bolt(int width, int length, int grams) {
        if (!within(width, LEAST_WIDTH, MOST_WIDTH)
                || !within(length, 1, MOST_LENGTH) || !areGrams(grams)) {
            return NONE;
        }
        int number = addBolt(width, length, floatOf(grams), NONE);
        if (number != NONE) {
            log.begin(DID_BOLT, NONE, number);
        }
        return number;
    }

    public boolean row(int bolt, int n) {
        Bolt of = boltAt(bolt);
        if (of == null || !within(n, 0, of.length) || !of.isBare()) {
            return false;
        }
        Act act = log.begin(DID_ROW, NONE, bolt);
        act.swapRow(of);
        of.clearRow(n);
        return true;
    }

    public boolean wear(int bolt, int k, int v) {
        Bolt of = boltAt(bolt);
        if (of == null || !of.tells(k) || !isWorn(v) || !of.isBare()) {
            return false;
        }
        Act act = log.begin(DID_WEAR, NONE, bolt);
        act.place = k;
        act.was = of.wornAt(k);
        of.putWorn(k, v);
        return true;
    }

    public int worn(int bolt, int k) {
        Bolt of = boltAt(bolt);
        return of == null || !of.hasPlace(k) ? NONE : of.wornAt(k);
    }

    public int left(int bolt) {
        Bolt of = boltAt(bolt);
        return of == null ? NONE : of.free;
    }

    public int over(int bolt, int k) {
        Bolt of = boltAt(bolt);
        return of == null || !of.hasPlace(k) ? NONE : of.lying[k];
    }

    public int old(int bolt) {
        Bolt of = boltAt(bolt);
        return of == null ? NONE : of.from;
    }

    // ---- sails

    public int sail(int footLeft, int footRight, int headLeft, int headRight, int height) {
        if (!isX(footLeft) || !isX(footRight) || !isX(headLeft) || !isX(headRight)
                || !within(height, 1, MOST_HEIGHT) || sailCount >= MOST_SAILS) {
            return NONE;
        }
        int number = sailCount;
        Sail made = sails[number];
        if (made == null) {
            made = new Sail();
            sails[number] = made;
        }
        made.begin(height);
        made.left.begin(footLeft, headLeft, height);
        made.right.begin(footRight, headRight, height);
        sailCount = number + 1;
        log.begin(DID_SAIL, number, NONE);
        return number;
    }

    public boolean edge(int sail, int side, int n) {
        Sail of = sailIn(sail, OPEN);
        Side edged = sideOf(of, side);
        if (of == null || edged == null || !within(n, 0, of.height + 1)) {
            return false;
        }
        Act act = log.begin(DID_EDGE, sail, side);
        act.swapEdge(edged);
        edged.clearRow(n);
        return true;
    }

    public boolean stand(int sail, int side, int y, int v) {
        Side edged = sideOf(sailIn(sail, OPEN), side);
        if (edged == null || !edged.tells(y) || !within(v, -MOST_STAND, MOST_STAND)) {
            return false;
        }
        Act act = log.begin(DID_STAND, sail, side);
        act.place = y;
        act.was = edged.standAt(y);
        edged.putStand(y, v);
        return true;
    }

    public int at(int sail, int side, int y) {
        Sail of = sailAt(sail);
        Side edged = sideOf(of, side);
        return of == null || edged == null || !of.hasHeight(y) ? NO_EDGE : edged.edgeAt(y);
    }

    public int cut(int sail, int w, int seam) {
        Sail of = sailIn(sail, OPEN);
        if (of == null || !within(w, LEAST_WIDTH, MOST_WIDTH) || !within(seam, 1, w - 1)) {
            return NONE;
        }
        int step = w - seam;
        if (of.panelsAt(step) > MOST_PIECES || !of.canBeCut()) {
            return NONE;
        }
        of.cutPanels(step, seam);
        log.begin(DID_CUT, sail, NONE);
        return of.panels;
    }

    public boolean narrow(int sail, int i, int v) {
        Sail of = sailIn(sail, CUT);
        if (of == null || !within(i, 0, of.panels - 2) || !within(v, 0, MOST_LET)) {
            return false;
        }
        Piece below = of.pieceAt(i);
        if (below == null) {
            return false;
        }
        Act act = log.begin(DID_NARROW, sail, i);
        act.was = below.lets;
        below.lets = v;
        return true;
    }

    public int patch(int sail, int y, int breadth, int length) {
        Sail of = sailIn(sail, CUT);
        if (of == null || !of.hasStrip(y) || !within(breadth, 1, MOST_WIDTH)
                || !within(length, 1, MOST_PATCH_LENGTH) || of.pieceCount() >= MOST_PIECES) {
            return NONE;
        }
        int number = of.addPatch(y, breadth, length);
        log.begin(DID_PATCH, sail, number);
        return number;
    }

    public int told(int sail, int what) {
        Sail of = sailAt(sail);
        if (of == null) {
            return NONE;
        }
        switch (what) {
            case 0: return of.state;
            case 1: return of.panels;
            case 2: return of.patches;
            case 3: return of.twiceBetween(0, of.height);
            case 4: return of.reef;
            case 5: return of.isSet ? 1 : 0;
            case 6: return weightOfAll(of);
            case 7: return of.lineCount;
            case 8: return of.height;
            default: return NONE;
        }
    }

    public int panel(int sail, int i, int what) {
        Piece piece = pieceOf(sailAt(sail), i);
        if (piece == null) {
            return NONE;
        }
        switch (what) {
            case 0: return kindOf(piece);
            case 1: return piece.low;
            case 2: return piece.high;
            case 3: return piece.length;
            case 4: return piece.breadth;
            case 5: return piece.twice;
            case 6: return piece.bolt;
            case 7: return piece.place;
            case 8: return weightOf(piece);
            case 9: return piece.lets;
            default: return NONE;
        }
    }

    public int full(int sail, int y) {
        Sail of = sailIn(sail, CUT);
        if (of == null || !of.hasHeight(y)) {
            return NONE;
        }
        int sum = 0;
        for (int i = 0; i < of.panels - 1; i++) {
            Piece below = of.pieceAt(i);
            if (below != null && below.high <= y) {
                sum += below.lets;
            }
        }
        return sum;
    }

    // ---- laying

    public boolean lay(int sail, int i, int bolt, int place, int worn) {
        Piece piece = pieceOf(sailIn(sail, CUT), i);
        Bolt on = boltAt(bolt);
        if (piece == null || piece.isLaid() || on == null || !isWorn(worn)
                || !on.canTake(piece, place, worn)) {
            return false;
        }
        layPiece(sail, i, piece, bolt, place);
        log.begin(DID_LAY, sail, i);
        return true;
    }

    public boolean lift(int sail, int i) {
        Piece piece = pieceOf(sailIn(sail, CUT), i);
        if (piece == null || !piece.isLaid()) {
            return false;
        }
        Act act = log.begin(DID_LIFT, sail, i);
        act.was = piece.bolt;
        act.place = piece.place;
        liftPiece(piece);
        return true;
    }

    public int plan(int worn) {
        if (!isWorn(worn)) {
            return NO_PLAN;
        }
        Act act = null;
        for (int s = 0; s < sailCount; s++) {
            Sail of = sailIn(s, CUT);
            if (of == null) {
                continue;
            }
            for (int i = 0; i < of.pieceCount(); i++) {
                Piece piece = of.pieceAt(i);
                if (piece == null || piece.isLaid()) {
                    continue;
                }
                if (!layOnFirst(s, i, piece, worn)) {
                    return codeOf(s, i);
                }
                if (act == null) {
                    act = log.begin(DID_PLAN, NONE, NONE);
                    act.clearLaid();
                }
                act.noteLaid(s, i);
            }
        }
        return NONE;
    }

    public int fewest(int sail, int worn) {
        Sail of = sailIn(sail, CUT);
        if (of == null || !isWorn(worn)) {
            return NONE;
        }
        if (packing == null) {
            packing = new Packing();
        }
        packing.clear();
        for (int i = 0; i < of.pieceCount(); i++) {
            Piece piece = of.pieceAt(i);
            if (piece != null && !piece.isLaid() && !packing.add(piece.breadth, piece.length)) {
                return NONE;
            }
        }
        for (int b = 0; b < boltCount; b++) {
            Bolt on = boltAt(b);
            if (on != null && on.isBare() && on.isWornAtMost(worn)) {
                packing.offer(on.width, on.length);
            }
        }
        return packing.answer();
    }

    // ---- the mast and the wind

    public boolean mast(int k, int load) {
        if (!within(k, 0, MOST_HEIGHT) || !within(load, 0, MOST_LOAD)) {
            return false;
        }
        spar.loads[k] = load;
        return true;
    }

    public boolean wind(int y, int push) {
        if (!within(y, 0, MOST_HEIGHT - 1) || !within(push, 0, MOST_WIND)) {
            return false;
        }
        spar.winds[y] = push;
        return true;
    }

    public boolean set(int sail, boolean is) {
        Sail of = sailIn(sail, CUT);
        if (of == null || of.isSet == is) {
            return false;
        }
        of.isSet = is;
        log.begin(DID_SET, sail, NONE);
        return true;
    }

    public boolean reef(int sail, int line) {
        Sail of = sailIn(sail, CUT);
        if (of == null || !of.hasHeight(line) || of.reef == line) {
            return false;
        }
        Act act = log.begin(DID_REEF, sail, NONE);
        act.was = of.reef;
        of.reef = line;
        return true;
    }

    public int line(int sail, int y) {
        Sail of = sailAt(sail);
        if (of == null || of.state == TAKEN || !of.addLine(y)) {
            return NONE;
        }
        log.begin(DID_LINE, sail, NONE);
        return of.lineCount;
    }

    public long push(int k) {
        if (!within(k, 0, MOST_HEIGHT)) {
            return NONE;
        }
        blowOnAll();
        return spar.pushAt(k);
    }

    public int bears() {
        blowOnAll();
        return spar.firstBreak();
    }

    public int least() {
        blowOnAll();
        if (spar.firstBreak() == NONE) {
            return 0;
        }
        for (int s = 0; s < sailCount; s++) {
            Sail of = sailAt(s);
            if (of != null) {
                triedReefs[s] = of.reef;
            }
        }
        int taken = 0;
        for (int round = 0; round < MOST_LINES; round++) {
            for (int s = 0; s < sailCount; s++) {
                if (!tryReef(s)) {
                    continue;
                }
                taken++;
                if (spar.firstBreak() == NONE) {
                    return taken;
                }
            }
        }
        return NONE;
    }

    // ---- old sails, and acts

    public int take(int sail) {
        Sail of = sailIn(sail, CUT);
        if (of == null || !of.isAllLaid() || boltCount + of.pieceCount() > MOST_BOLTS) {
            return NONE;
        }
        int pieces = of.pieceCount();
        for (int i = 0; i < pieces; i++) {
            addOldBolt(of.pieceAt(i), sail);
        }
        Act act = log.begin(DID_TAKE, sail, NONE);
        act.was = of.isSet ? 1 : 0;
        of.isSet = false;
        of.state = TAKEN;
        return pieces;
    }

    public boolean undo() {
        Act act = log.dropLatest();
        if (act == null) {
            return false;
        }
        switch (act.kind) {
            case DID_BOLT:
                boltCount--;
                break;
            case DID_SAIL:
                sailCount--;
                break;
            case DID_PLAN:
                undoPlan(act);
                break;
            case DID_ROW:
            case DID_WEAR:
                undoOnBolt(act, boltAt(act.item));
                break;
            case DID_EDGE:
            case DID_STAND:
                undoOnSide(act, sideOf(sailAt(act.sail), act.item));
                break;
            case DID_NARROW:
            case DID_LAY:
            case DID_LIFT:
                undoOnPiece(act, pieceOf(sailAt(act.sail), act.item));
                break;
            default:
                undoOnSail(act, sailAt(act.sail));
                break;
        }
        return true;
    }

    public int count(int what) {
        switch (what) {
            case 0: return boltCount;
            case 1: return sailCount;
            case 2: return log.size;
            default: return NONE;
        }
    }

    // ---- what is as told

    private static boolean within(int value, int least, int most) {
        return value >= least && value <= most;
    }

    private static boolean isWorn(int value) {
        return within(value, 0, MOST_WORN);
    }

    private static boolean isX(int value) {
        return within(value, -MOST_X, MOST_X);
    }

    // The bits of floats that aren't negative rise with them; those of no number come last.
    private static boolean areGrams(int bits) {
        return within(bits, 0, MOST_GRAMS_BITS) || bits == MINUS_ZERO_BITS;
    }

    // No library call for this is allowed; halving is exact here, as each result is a float.
    private static float floatOf(int bits) {
        int exponent = (bits >>> FRACTION_BITS) & 0xFF;
        int fraction = bits & FRACTION_MASK;
        if (exponent == 0) {
            exponent = 1;
        } else {
            fraction |= LEADING_BIT;
        }
        float value = (float) fraction;
        for (int i = exponent; i < WHOLE_EXPONENT; i++) {
            value = value / 2f;
        }
        return value;
    }

    // ---- finding

    private Bolt boltAt(int number) {
        return number < 0 || number >= boltCount || number >= MOST_BOLTS ? null : bolts[number];
    }

    private Sail sailAt(int number) {
        return number < 0 || number >= sailCount || number >= MOST_SAILS ? null : sails[number];
    }

    private Sail sailIn(int number, int state) {
        Sail of = sailAt(number);
        return of == null || of.state != state ? null : of;
    }

    private static Side sideOf(Sail of, int side) {
        if (of == null || !within(side, 0, 1)) {
            return null;
        }
        return side == 0 ? of.left : of.right;
    }

    private static Piece pieceOf(Sail of, int i) {
        return of == null ? null : of.pieceAt(i);
    }

    private static int codeOf(int sail, int i) {
        return 100 * sail + i;
    }

    // ---- bolts and what lies on them

    private int addBolt(int width, int length, float grams, int from) {
        if (boltCount >= MOST_BOLTS) {
            return NONE;
        }
        int number = boltCount;
        Bolt made = bolts[number];
        if (made == null) {
            made = new Bolt();
            bolts[number] = made;
        }
        made.begin(width, length, grams, from);
        boltCount = number + 1;
        return number;
    }

    private void addOldBolt(Piece piece, int from) {
        if (piece == null) {
            return;
        }
        Bolt under = boltAt(piece.bolt);
        if (under != null) {
            int width = Math.max(piece.breadth, LEAST_WIDTH);
            int length = Math.min(piece.length, MOST_LENGTH);
            addBolt(width, length, under.grams, from);
        }
    }

    private void layPiece(int sail, int i, Piece piece, int bolt, int place) {
        Bolt on = boltAt(bolt);
        if (on != null) {
            on.cover(place, piece.length, codeOf(sail, i));
            on.free -= piece.length;
            piece.bolt = bolt;
            piece.place = place;
        }
    }

    private void liftPiece(Piece piece) {
        Bolt on = boltAt(piece.bolt);
        if (on != null) {
            on.cover(piece.place, piece.length, NONE);
            on.free += piece.length;
            piece.bolt = NONE;
            piece.place = NONE;
        }
    }

    private boolean layOnFirst(int sail, int i, Piece piece, int worn) {
        for (int b = 0; b < boltCount; b++) {
            Bolt on = boltAt(b);
            int place = on == null ? NONE : on.firstPlace(piece, worn);
            if (place != NONE) {
                layPiece(sail, i, piece, b, place);
                return true;
            }
        }
        return false;
    }

    private int kindOf(Piece piece) {
        if (piece.isPatch) {
            return KIND_PATCH;
        }
        Bolt on = boltAt(piece.bolt);
        if (on != null && on.from != NONE) {
            return KIND_OLD;
        }
        return piece.lets > 0 ? KIND_TAPERED : KIND_PANEL;
    }

    private int weightOf(Piece piece) {
        Bolt on = boltAt(piece.bolt);
        if (on == null) {
            return 0;
        }
        float weight = on.grams * (float) piece.twice / 2f;
        return Math.min((int) weight, MOST_WEIGHT);
    }

    private int weightOfAll(Sail of) {
        int sum = 0;
        for (int i = 0; i < of.pieceCount(); i++) {
            Piece piece = of.pieceAt(i);
            sum += piece == null ? 0 : weightOf(piece);
        }
        return sum;
    }

    // ---- the wind on the sails

    private void blowOnAll() {
        spar.clearStrips();
        for (int s = 0; s < sailCount; s++) {
            Sail of = sailAt(s);
            if (of != null && of.isSet) {
                spar.blow(of, of.reef, of.height, 1);
            }
        }
    }

    private boolean tryReef(int s) {
        Sail of = sailAt(s);
        if (of == null || !of.isSet) {
            return false;
        }
        int next = of.lineAbove(triedReefs[s]);
        if (next == NONE) {
            return false;
        }
        spar.blow(of, triedReefs[s], next, -1);
        triedReefs[s] = next;
        return true;
    }

    // ---- undoing

    private static void undoOnBolt(Act act, Bolt of) {
        if (of == null) {
            return;
        }
        if (act.kind == DID_ROW) {
            act.swapRow(of);
        } else {
            of.putWorn(act.place, act.was);
        }
    }

    private static void undoOnSide(Act act, Side edged) {
        if (edged == null) {
            return;
        }
        if (act.kind == DID_EDGE) {
            act.swapEdge(edged);
        } else {
            edged.putStand(act.place, act.was);
        }
    }

    private void undoOnPiece(Act act, Piece piece) {
        if (piece == null) {
            return;
        }
        if (act.kind == DID_NARROW) {
            piece.lets = act.was;
        } else if (act.kind == DID_LAY) {
            liftPiece(piece);
        } else {
            layPiece(act.sail, act.item, piece, act.was, act.place);
        }
    }

    private void undoPlan(Act act) {
        for (int s = 0; s < sailCount; s++) {
            Sail of = sailAt(s);
            if (of == null) {
                continue;
            }
            for (int i = 0; i < of.pieceCount(); i++) {
                Piece piece = of.pieceAt(i);
                if (piece != null && act.hasLaid(s, i)) {
                    liftPiece(piece);
                }
            }
        }
    }

    private void undoOnSail(Act act, Sail of) {
        if (of == null) {
            return;
        }
        switch (act.kind) {
            case DID_CUT:
                of.state = OPEN;
                of.panels = 0;
                break;
            case DID_PATCH:
                of.patches--;
                break;
            case DID_SET:
                of.isSet = !of.isSet;
                break;
            case DID_REEF:
                of.reef = act.was;
                break;
            case DID_LINE:
                of.lineCount--;
                break;
            case DID_TAKE:
                of.state = CUT;
                of.isSet = act.was == 1;
                boltCount -= of.pieceCount();
                break;
            default:
                break;
        }
    }

    // ---- the classes

    private static final class Bolt {
        int width;
        int length;
        float grams;
        int from;
        int free;
        byte[] row;
        int rowLength;
        final short[] lying = new short[MOST_LENGTH];

        void begin(int width, int length, float grams, int from) {
            this.width = width;
            this.length = length;
            this.grams = grams;
            this.from = from;
            free = length;
            rowLength = 0;
            Arrays.fill(lying, (short) NONE);
        }

        boolean hasPlace(int k) {
            return k >= 0 && k < length;
        }

        boolean isBare() {
            return free == length;
        }

        void clearRow(int n) {
            rowLength = n;
            if (n == 0) {
                return;
            }
            if (row == null) {
                row = new byte[MOST_LENGTH];
            } else {
                Arrays.fill(row, (byte) 0);
            }
        }

        boolean tells(int k) {
            return row != null && k >= 0 && k < rowLength;
        }

        int wornAt(int k) {
            return tells(k) ? row[k] : 0;
        }

        void putWorn(int k, int v) {
            if (tells(k)) {
                row[k] = (byte) v;
            }
        }

        boolean isWornAtMost(int most) {
            for (int k = 0; k < rowLength; k++) {
                if (wornAt(k) > most) {
                    return false;
                }
            }
            return true;
        }

        boolean isFree(int k, int most) {
            return hasPlace(k) && lying[k] == NONE && wornAt(k) <= most;
        }

        // Written without place + length, which could pass the greatest int.
        boolean canTake(Piece piece, int place, int most) {
            if (piece.breadth > width || place < 0 || place > length - piece.length) {
                return false;
            }
            for (int k = place; k < place + piece.length; k++) {
                if (!isFree(k, most)) {
                    return false;
                }
            }
            return true;
        }

        int firstPlace(Piece piece, int most) {
            if (piece.breadth > width || piece.length > free) {
                return NONE;
            }
            int start = 0;
            for (int k = 0; k < length; k++) {
                if (!isFree(k, most)) {
                    start = k + 1;
                } else if (k + 1 - start == piece.length) {
                    return start;
                }
            }
            return NONE;
        }

        void cover(int place, int span, int what) {
            for (int k = place; k < place + span; k++) {
                if (hasPlace(k)) {
                    lying[k] = (short) what;
                }
            }
        }
    }

    private static final class Side {
        int foot;
        int head;
        int height;
        short[] row;
        int rowLength;

        void begin(int foot, int head, int height) {
            this.foot = foot;
            this.head = head;
            this.height = height;
            rowLength = 0;
        }

        void clearRow(int n) {
            rowLength = n;
            if (n == 0) {
                return;
            }
            if (row == null) {
                row = new short[MOST_HEIGHT + 1];
            } else {
                Arrays.fill(row, (short) 0);
            }
        }

        boolean tells(int y) {
            return row != null && y >= 0 && y < rowLength;
        }

        int standAt(int y) {
            return tells(y) ? row[y] : 0;
        }

        void putStand(int y, int v) {
            if (tells(y)) {
                row[y] = (short) v;
            }
        }

        int edgeAt(int y) {
            int rise = height < 1 ? 0 : (head - foot) * y / height;
            return foot + rise + standAt(y);
        }
    }

    private static final class Piece {
        boolean isPatch;
        int low;
        int high;
        int length;
        int breadth;
        int twice;
        int lets;
        int bolt;
        int place;

        void begin(boolean isPatch, int low, int high) {
            this.isPatch = isPatch;
            this.low = low;
            this.high = high;
            lets = 0;
            bolt = NONE;
            place = NONE;
        }

        void measure(int length, int breadth, int twice) {
            this.length = length;
            this.breadth = breadth;
            this.twice = twice;
        }

        boolean isLaid() {
            return bolt != NONE;
        }
    }

    private static final class Sail {
        int height;
        int state;
        int panels;
        int patches;
        int reef;
        boolean isSet;
        int lineCount;
        final int[] lines = new int[MOST_LINES];
        final Side left = new Side();
        final Side right = new Side();
        final Piece[] pieces = new Piece[MOST_PIECES];

        void begin(int height) {
            this.height = height;
            state = OPEN;
            panels = 0;
            patches = 0;
            reef = 0;
            isSet = false;
            lineCount = 0;
        }

        boolean hasHeight(int y) {
            return y >= 0 && y <= height;
        }

        boolean hasStrip(int y) {
            return y >= 0 && y < height;
        }

        int pieceCount() {
            return panels + patches;
        }

        Piece pieceAt(int i) {
            return i < 0 || i >= pieceCount() || i >= MOST_PIECES ? null : pieces[i];
        }

        int widthAt(int y) {
            return right.edgeAt(y) - left.edgeAt(y);
        }

        int twiceOfStrip(int y) {
            int rights = right.edgeAt(y) + right.edgeAt(y + 1);
            return rights - left.edgeAt(y) - left.edgeAt(y + 1);
        }

        int twiceBetween(int low, int high) {
            int sum = 0;
            for (int y = low; y < high; y++) {
                sum += twiceOfStrip(y);
            }
            return sum;
        }

        int lengthBetween(int low, int high) {
            int least = left.edgeAt(low);
            int greatest = right.edgeAt(low);
            for (int y = low + 1; y <= high; y++) {
                least = Math.min(least, left.edgeAt(y));
                greatest = Math.max(greatest, right.edgeAt(y));
            }
            return greatest - least;
        }

        boolean canBeCut() {
            for (int y = 0; y <= height; y++) {
                if (widthAt(y) <= 0) {
                    return false;
                }
            }
            return true;
        }

        int panelsAt(int step) {
            return step < 1 ? 0 : (height + step - 1) / step;
        }

        void cutPanels(int step, int seam) {
            int many = Math.min(panelsAt(step), MOST_PIECES);
            for (int i = 0; i < many; i++) {
                int low = i * step;
                int high = Math.min(low + step, height);
                Piece made = usablePiece(i);
                made.begin(false, low, high);
                made.measure(lengthBetween(low, high), high - low + seam, twiceBetween(low, high));
            }
            panels = many;
            state = CUT;
        }

        int addPatch(int y, int breadth, int length) {
            int number = pieceCount();
            if (number >= MOST_PIECES) {
                return NONE;
            }
            Piece made = usablePiece(number);
            made.begin(true, y, y + 1);
            made.measure(length, breadth, 2 * breadth * length);
            patches++;
            return number;
        }

        // The caller keeps i below MOST_PIECES; pieces that undo took away are used again.
        private Piece usablePiece(int i) {
            if (pieces[i] == null) {
                pieces[i] = new Piece();
            }
            return pieces[i];
        }

        boolean isAllLaid() {
            for (int i = 0; i < pieceCount(); i++) {
                Piece piece = pieceAt(i);
                if (piece == null || !piece.isLaid()) {
                    return false;
                }
            }
            return true;
        }

        boolean addLine(int y) {
            int below = lineCount < 1 || lineCount > MOST_LINES ? 0 : lines[lineCount - 1];
            if (lineCount >= MOST_LINES || y <= below || y > height) {
                return false;
            }
            lines[lineCount] = y;
            lineCount++;
            return true;
        }

        int lineAbove(int y) {
            for (int i = 0; i < lineCount && i < MOST_LINES; i++) {
                if (lines[i] > y) {
                    return lines[i];
                }
            }
            return NONE;
        }
    }

    private static final class Mast {
        final int[] loads = new int[MOST_HEIGHT + 1];
        final int[] winds = new int[MOST_HEIGHT];
        final long[] strips = new long[MOST_HEIGHT];

        Mast() {
            Arrays.fill(loads, MOST_LOAD);
        }

        void clearStrips() {
            Arrays.fill(strips, 0L);
        }

        // sign 1 adds what the strips of a sail catch, -1 takes it off again.
        void blow(Sail of, int from, int to, int sign) {
            for (int y = Math.max(from, 0); y < to && y < MOST_HEIGHT; y++) {
                if (winds[y] != 0) {
                    strips[y] += (long) sign * of.twiceOfStrip(y) * winds[y];
                }
            }
        }

        long pushAt(int k) {
            long below = k >= 1 && k <= MOST_HEIGHT ? strips[k - 1] : 0L;
            long above = k >= 0 && k < MOST_HEIGHT ? strips[k] : 0L;
            return below + above;
        }

        int firstBreak() {
            for (int k = 0; k <= MOST_HEIGHT; k++) {
                if (pushAt(k) > 4L * loads[k]) {
                    return k;
                }
            }
            return NONE;
        }
    }

    /** The fewest bolts for every set of pieces; a set is told by the bits of a number. */
    private static final class Packing {
        private static final int SETS = 1 << MOST_PACKED;
        private static final int NOT_YET = MOST_BOLTS + 1;

        final int[] breadths = new int[SETS];
        final int[] lengths = new int[SETS];
        final int[] needed = new int[SETS];
        int pieces;

        // The empty set's entries are 0 and never written.
        void clear() {
            pieces = 0;
        }

        boolean add(int breadth, int length) {
            if (pieces >= MOST_PACKED) {
                return false;
            }
            int bit = 1 << pieces;
            for (int rest = 0; rest < bit; rest++) {
                breadths[bit + rest] = Math.max(breadths[rest], breadth);
                lengths[bit + rest] = lengths[rest] + length;
                needed[bit + rest] = NOT_YET;
            }
            pieces++;
            return true;
        }

        // Sets fall, so that what a set leaves over has not been given this bolt yet. So do the
        // parts of each: (part - 1) & all is the next lower one, which is 0 at last.
        void offer(int width, int length) {
            for (int all = (1 << pieces) - 1; all > 0; all--) {
                int fewest = needed[all];
                for (int part = all; part > 0 && fewest > 1; part = (part - 1) & all) {
                    if (breadths[part] <= width && lengths[part] <= length) {
                        fewest = Math.min(fewest, needed[all ^ part] + 1);
                    }
                }
                needed[all] = fewest;
            }
        }

        int answer() {
            int fewest = needed[(1 << pieces) - 1];
            return fewest >= NOT_YET ? NONE : fewest;
        }
    }

    /** What undoing one act needs; each kind of act uses the fields that it must. */
    private static final class Act {
        int kind;
        int sail;
        int item;
        int place;
        int was;
        int rowLength;
        byte[] row;
        short[] edge;
        final long[] laid = new long[MOST_SAILS];

        // The row kept here and the bolt's change places: nothing is copied, nothing made.
        void swapRow(Bolt of) {
            byte[] rowThere = of.row;
            int lengthThere = of.rowLength;
            of.row = row;
            of.rowLength = rowLength;
            row = rowThere;
            rowLength = lengthThere;
        }

        void swapEdge(Side of) {
            short[] rowThere = of.row;
            int lengthThere = of.rowLength;
            of.row = edge;
            of.rowLength = rowLength;
            edge = rowThere;
            rowLength = lengthThere;
        }

        void clearLaid() {
            Arrays.fill(laid, 0L);
        }

        void noteLaid(int sail, int i) {
            if (sail >= 0 && sail < MOST_SAILS) {
                laid[sail] |= 1L << i;
            }
        }

        boolean hasLaid(int sail, int i) {
            return sail >= 0 && sail < MOST_SAILS && (laid[sail] >>> i & 1L) == 1L;
        }
    }

    /** The latest acts, in a ring: a new one takes the place of the oldest. */
    private static final class Log {
        final Act[] ring = new Act[MOST_ACTS];
        int next;
        int size;

        Act begin(int kind, int sail, int item) {
            int slot = Math.floorMod(next, MOST_ACTS);
            if (ring[slot] == null) {
                ring[slot] = new Act();
            }
            Act act = ring[slot];
            act.kind = kind;
            act.sail = sail;
            act.item = item;
            next = (slot + 1) % MOST_ACTS;
            size = Math.min(size + 1, MOST_ACTS);
            return act;
        }

        Act dropLatest() {
            if (size < 1) {
                return null;
            }
            size--;
            next = Math.floorMod(next - 1, MOST_ACTS);
            return ring[next];
        }
    }
}
