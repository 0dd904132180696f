import java.util.ArrayDeque;
import java.util.ArrayList;
import java.util.List;

/** The document once more, in the plainest way: nothing is kept that can be found anew, and undo
 *  puts back a copy of all. */
final class NaiveLoft {
    static final class Cloth {
        int width;
        int length;
        float grams;
        int from = -1;
        int[] row = new int[0];
    }

    static final class Part {
        boolean patch;
        int y;
        int breadth;
        int length;
        int lets;
        int bolt = -1;
        int place = -1;
    }

    static final class Canvas {
        int[] foot;
        int[] head;
        int height;
        int[][] rows = {{}, {}};
        int state;
        int w;
        int seam;
        int reef;
        boolean set;
        List<Integer> lines = new ArrayList<>();
        List<Part> parts = new ArrayList<>();
    }

    static final class All {
        List<Cloth> bolts = new ArrayList<>();
        List<Canvas> sails = new ArrayList<>();
    }

    private All now = new All();
    private final ArrayDeque<All> before = new ArrayDeque<>();
    private final int[] loads = new int[61];
    private final int[] winds = new int[60];

    NaiveLoft() {
        java.util.Arrays.fill(loads, 2000000000);
    }

    private static All copy(All all) {
        All made = new All();
        for (Cloth c : all.bolts) {
            Cloth d = new Cloth();
            d.width = c.width;
            d.length = c.length;
            d.grams = c.grams;
            d.from = c.from;
            d.row = c.row.clone();
            made.bolts.add(d);
        }
        for (Canvas c : all.sails) {
            Canvas d = new Canvas();
            d.foot = c.foot;
            d.head = c.head;
            d.height = c.height;
            d.rows = new int[][] {c.rows[0].clone(), c.rows[1].clone()};
            d.state = c.state;
            d.w = c.w;
            d.seam = c.seam;
            d.reef = c.reef;
            d.set = c.set;
            d.lines.addAll(c.lines);
            for (Part p : c.parts) {
                Part q = new Part();
                q.patch = p.patch;
                q.y = p.y;
                q.breadth = p.breadth;
                q.length = p.length;
                q.lets = p.lets;
                q.bolt = p.bolt;
                q.place = p.place;
                d.parts.add(q);
            }
            made.sails.add(d);
        }
        return made;
    }

    private void act() {
        act(copy(now));
    }

    private void act(All ahead) {
        before.addLast(ahead);
        if (before.size() > 16) {
            before.removeFirst();
        }
    }

    private static boolean in(int v, int low, int high) {
        return low <= v && v <= high;
    }

    private Cloth cloth(int b) {
        return in(b, 0, now.bolts.size() - 1) ? now.bolts.get(b) : null;
    }

    private Canvas canvas(int s) {
        return in(s, 0, now.sails.size() - 1) ? now.sails.get(s) : null;
    }

    private Canvas canvas(int s, int state) {
        Canvas c = canvas(s);
        return c != null && c.state == state ? c : null;
    }

    private static Part part(Canvas c, int i) {
        return c != null && in(i, 0, c.parts.size() - 1) ? c.parts.get(i) : null;
    }

    private static int told(int[] row, int k) {
        return in(k, 0, row.length - 1) ? row[k] : 0;
    }

    private static int edgeAt(Canvas c, int side, int y) {
        return c.foot[side] + (c.head[side] - c.foot[side]) * y / c.height + told(c.rows[side], y);
    }

    private static int strip(Canvas c, int y) {
        return edgeAt(c, 1, y) - edgeAt(c, 0, y) + edgeAt(c, 1, y + 1) - edgeAt(c, 0, y + 1);
    }

    private static int panels(Canvas c) {
        return (int) c.parts.stream().filter(p -> !p.patch).count();
    }

    private static int low(Canvas c, int i) {
        Part p = c.parts.get(i);
        return p.patch ? p.y : i * (c.w - c.seam);
    }

    private static int high(Canvas c, int i) {
        Part p = c.parts.get(i);
        return p.patch ? p.y + 1 : Math.min(c.height, (i + 1) * (c.w - c.seam));
    }

    private static int breadth(Canvas c, int i) {
        Part p = c.parts.get(i);
        return p.patch ? p.breadth : high(c, i) - low(c, i) + c.seam;
    }

    private static int length(Canvas c, int i) {
        Part p = c.parts.get(i);
        if (p.patch) {
            return p.length;
        }
        int least = Integer.MAX_VALUE;
        int most = Integer.MIN_VALUE;
        for (int y = low(c, i); y <= high(c, i); y++) {
            least = Math.min(least, edgeAt(c, 0, y));
            most = Math.max(most, edgeAt(c, 1, y));
        }
        return most - least;
    }

    private static int twice(Canvas c, int i) {
        Part p = c.parts.get(i);
        if (p.patch) {
            return 2 * p.breadth * p.length;
        }
        int sum = 0;
        for (int y = low(c, i); y < high(c, i); y++) {
            sum += strip(c, y);
        }
        return sum;
    }

    private int weight(Canvas c, int i) {
        Part p = c.parts.get(i);
        if (p.bolt < 0) {
            return 0;
        }
        float whole = now.bolts.get(p.bolt).grams * (float) twice(c, i);
        return Math.min(1000000, (int) (whole / 2f));
    }

    int bolt(int width, int length, int grams) {
        float g = Float.intBitsToFloat(grams);
        if (!in(width, 2, 20) || !in(length, 1, 200) || !(g >= 0 && g <= 1000) || now.bolts.size() == 24) {
            return -1;
        }
        act();
        Cloth c = new Cloth();
        c.width = width;
        c.length = length;
        c.grams = g;
        now.bolts.add(c);
        return now.bolts.size() - 1;
    }

    private boolean bare(int b) {
        return left(b) == now.bolts.get(b).length;
    }

    boolean row(int bolt, int n) {
        Cloth c = cloth(bolt);
        if (c == null || !in(n, 0, c.length) || !bare(bolt)) {
            return false;
        }
        act();
        c.row = new int[n];
        return true;
    }

    boolean wear(int bolt, int k, int v) {
        Cloth c = cloth(bolt);
        if (c == null || !in(k, 0, c.row.length - 1) || !in(v, 0, 100) || !bare(bolt)) {
            return false;
        }
        act();
        c.row[k] = v;
        return true;
    }

    int worn(int bolt, int k) {
        Cloth c = cloth(bolt);
        return c == null || !in(k, 0, c.length - 1) ? -1 : told(c.row, k);
    }

    int sail(int footLeft, int footRight, int headLeft, int headRight, int height) {
        for (int x : new int[] {footLeft, footRight, headLeft, headRight}) {
            if (!in(x, -500, 500)) {
                return -1;
            }
        }
        if (!in(height, 1, 60) || now.sails.size() == 10) {
            return -1;
        }
        act();
        Canvas c = new Canvas();
        c.foot = new int[] {footLeft, footRight};
        c.head = new int[] {headLeft, headRight};
        c.height = height;
        now.sails.add(c);
        return now.sails.size() - 1;
    }

    boolean edge(int sail, int side, int n) {
        Canvas c = canvas(sail, 0);
        if (c == null || !in(side, 0, 1) || !in(n, 0, c.height + 1)) {
            return false;
        }
        act();
        c.rows[side] = new int[n];
        return true;
    }

    boolean stand(int sail, int side, int y, int v) {
        Canvas c = canvas(sail, 0);
        if (c == null || !in(side, 0, 1) || !in(y, 0, c.rows[side].length - 1) || !in(v, -200, 200)) {
            return false;
        }
        act();
        c.rows[side][y] = v;
        return true;
    }

    int at(int sail, int side, int y) {
        Canvas c = canvas(sail);
        return c == null || !in(side, 0, 1) || !in(y, 0, c.height) ? -10000 : edgeAt(c, side, y);
    }

    int cut(int sail, int w, int seam) {
        Canvas c = canvas(sail, 0);
        if (c == null || !in(w, 2, 20) || !in(seam, 1, w - 1)) {
            return -1;
        }
        for (int y = 0; y <= c.height; y++) {
            if (edgeAt(c, 0, y) >= edgeAt(c, 1, y)) {
                return -1;
            }
        }
        int many = 0;
        while (many * (w - seam) < c.height) {
            many++;
        }
        if (many > 40) {
            return -1;
        }
        act();
        c.state = 1;
        c.w = w;
        c.seam = seam;
        for (int i = 0; i < many; i++) {
            c.parts.add(new Part());
        }
        return many;
    }

    boolean narrow(int sail, int i, int v) {
        Canvas c = canvas(sail, 1);
        if (c == null || !in(i, 0, panels(c) - 2) || !in(v, 0, 50)) {
            return false;
        }
        act();
        c.parts.get(i).lets = v;
        return true;
    }

    int patch(int sail, int y, int breadth, int length) {
        Canvas c = canvas(sail, 1);
        if (c == null || !in(y, 0, c.height - 1) || !in(breadth, 1, 20) || !in(length, 1, 100)
                || c.parts.size() == 40) {
            return -1;
        }
        act();
        Part p = new Part();
        p.patch = true;
        p.y = y;
        p.breadth = breadth;
        p.length = length;
        c.parts.add(p);
        return c.parts.size() - 1;
    }

    int told(int sail, int what) {
        Canvas c = canvas(sail);
        if (c == null || !in(what, 0, 8)) {
            return -1;
        }
        int area = 0;
        for (int y = 0; y < c.height; y++) {
            area += strip(c, y);
        }
        int weights = 0;
        for (int i = 0; i < c.parts.size(); i++) {
            weights += weight(c, i);
        }
        return new int[] {c.state, panels(c), c.parts.size() - panels(c), area, c.reef, c.set ? 1 : 0,
            weights, c.lines.size(), c.height}[what];
    }

    int panel(int sail, int i, int what) {
        Canvas c = canvas(sail);
        Part p = part(c, i);
        if (p == null || !in(what, 0, 9)) {
            return -1;
        }
        boolean old = p.bolt >= 0 && now.bolts.get(p.bolt).from >= 0;
        int kind = p.patch ? 2 : old ? 3 : p.lets > 0 ? 1 : 0;
        return new int[] {kind, low(c, i), high(c, i), length(c, i), breadth(c, i), twice(c, i),
            p.bolt, p.place, weight(c, i), p.lets}[what];
    }

    int full(int sail, int y) {
        Canvas c = canvas(sail, 1);
        if (c == null || !in(y, 0, c.height)) {
            return -1;
        }
        int sum = 0;
        for (int i = 0; i < panels(c); i++) {
            sum += high(c, i) <= y ? c.parts.get(i).lets : 0;
        }
        return sum;
    }

    private boolean fits(Canvas c, int i, int bolt, int place, int worn) {
        Cloth b = cloth(bolt);
        int length = length(c, i);
        if (breadth(c, i) > b.width || place < 0 || (long) place + length > b.length) {
            return false;
        }
        for (int k = place; k < place + length; k++) {
            if (over(bolt, k) != -1 || worn(bolt, k) > worn) {
                return false;
            }
        }
        return true;
    }

    boolean lay(int sail, int i, int bolt, int place, int worn) {
        Canvas c = canvas(sail, 1);
        Part p = part(c, i);
        if (p == null || p.bolt >= 0 || cloth(bolt) == null || !in(worn, 0, 100)
                || !fits(c, i, bolt, place, worn)) {
            return false;
        }
        act();
        p.bolt = bolt;
        p.place = place;
        return true;
    }

    boolean lift(int sail, int i) {
        Part p = part(canvas(sail, 1), i);
        if (p == null || p.bolt < 0) {
            return false;
        }
        act();
        p.bolt = -1;
        p.place = -1;
        return true;
    }

    int left(int bolt) {
        Cloth c = cloth(bolt);
        if (c == null) {
            return -1;
        }
        int free = 0;
        for (int k = 0; k < c.length; k++) {
            free += over(bolt, k) == -1 ? 1 : 0;
        }
        return free;
    }

    int over(int bolt, int k) {
        if (cloth(bolt) == null || !in(k, 0, cloth(bolt).length - 1)) {
            return -1;
        }
        for (int s = 0; s < now.sails.size(); s++) {
            Canvas c = now.sails.get(s);
            for (int i = 0; i < c.parts.size(); i++) {
                Part p = c.parts.get(i);
                if (p.bolt == bolt && in(k, p.place, p.place + length(c, i) - 1)) {
                    return 100 * s + i;
                }
            }
        }
        return -1;
    }

    int plan(int worn) {
        if (!in(worn, 0, 100)) {
            return -2;
        }
        All ahead = copy(now);
        boolean laid = false;
        int answer = -1;
        for (int s = 0; s < now.sails.size() && answer == -1; s++) {
            Canvas c = now.sails.get(s);
            for (int i = 0; c.state == 1 && i < c.parts.size() && answer == -1; i++) {
                if (c.parts.get(i).bolt >= 0) {
                    continue;
                }
                if (layFirst(c, i, worn)) {
                    laid = true;
                } else {
                    answer = 100 * s + i;
                }
            }
        }
        if (laid) {
            act(ahead);
        }
        return answer;
    }

    private boolean layFirst(Canvas c, int i, int worn) {
        for (int b = 0; b < now.bolts.size(); b++) {
            for (int p = 0; p < now.bolts.get(b).length; p++) {
                if (fits(c, i, b, p, worn)) {
                    c.parts.get(i).bolt = b;
                    c.parts.get(i).place = p;
                    return true;
                }
            }
        }
        return false;
    }

    int fewest(int sail, int worn) {
        Canvas c = canvas(sail, 1);
        if (c == null || !in(worn, 0, 100)) {
            return -1;
        }
        List<int[]> todo = new ArrayList<>();
        for (int i = 0; i < c.parts.size(); i++) {
            if (c.parts.get(i).bolt < 0) {
                todo.add(new int[] {breadth(c, i), length(c, i)});
            }
        }
        if (todo.size() > 8) {
            return -1;
        }
        List<int[]> usable = new ArrayList<>();
        for (int b = 0; b < now.bolts.size(); b++) {
            boolean good = bare(b);
            for (int v : now.bolts.get(b).row) {
                good &= v <= worn;
            }
            if (good) {
                usable.add(new int[] {now.bolts.get(b).width, now.bolts.get(b).length, 0});
            }
        }
        int least = pack(todo, 0, usable, 0, 99);
        return least == 99 ? -1 : least;
    }

    private static int pack(List<int[]> todo, int i, List<int[]> usable, int used, int best) {
        if (used >= best) {
            return best;
        }
        if (i == todo.size()) {
            return used;
        }
        int[] part = todo.get(i);
        for (int[] bolt : usable) {
            if (part[0] <= bolt[0] && bolt[2] + part[1] <= bolt[1]) {
                int more = bolt[2] == 0 ? 1 : 0;
                bolt[2] += part[1];
                best = pack(todo, i + 1, usable, used + more, best);
                bolt[2] -= part[1];
            }
        }
        return best;
    }

    boolean mast(int k, int load) {
        if (!in(k, 0, 60) || !in(load, 0, 2000000000)) {
            return false;
        }
        loads[k] = load;
        return true;
    }

    boolean wind(int y, int push) {
        if (!in(y, 0, 59) || !in(push, 0, 1000)) {
            return false;
        }
        winds[y] = push;
        return true;
    }

    boolean set(int sail, boolean is) {
        Canvas c = canvas(sail, 1);
        if (c == null || c.set == is) {
            return false;
        }
        act();
        c.set = is;
        return true;
    }

    boolean reef(int sail, int line) {
        Canvas c = canvas(sail, 1);
        if (c == null || !in(line, 0, c.height) || c.reef == line) {
            return false;
        }
        act();
        c.reef = line;
        return true;
    }

    int line(int sail, int y) {
        Canvas c = canvas(sail);
        if (c == null || c.state == 2 || !in(y, 1, c.height) || c.lines.size() == 3) {
            return -1;
        }
        for (int line : c.lines) {
            if (line >= y) {
                return -1;
            }
        }
        act();
        c.lines.add(y);
        return c.lines.size();
    }

    long push(int k) {
        if (!in(k, 0, 60)) {
            return -1;
        }
        long sum = 0;
        for (Canvas c : now.sails) {
            for (int y = k - 1; y <= k; y++) {
                if (c.set && in(y, 0, c.height - 1) && y >= c.reef) {
                    sum += (long) strip(c, y) * winds[y];
                }
            }
        }
        return sum;
    }

    int bears() {
        for (int k = 0; k <= 60; k++) {
            if (push(k) > 4L * loads[k]) {
                return k;
            }
        }
        return -1;
    }

    int least() {
        All kept = copy(now);
        int answer = -1;
        int reefs = 0;
        boolean more = true;
        if (bears() == -1) {
            answer = 0;
        }
        while (answer == -1 && more) {
            more = false;
            for (int s = 0; s < now.sails.size() && answer == -1; s++) {
                Canvas c = now.sails.get(s);
                Integer next = c.lines.stream().filter(y -> y > c.reef).findFirst().orElse(null);
                if (!c.set || next == null) {
                    continue;
                }
                c.reef = next;
                more = true;
                reefs++;
                if (bears() == -1) {
                    answer = reefs;
                }
            }
        }
        now = kept;
        return answer;
    }

    int take(int sail) {
        Canvas c = canvas(sail, 1);
        if (c == null || c.parts.stream().anyMatch(p -> p.bolt < 0)
                || now.bolts.size() + c.parts.size() > 24) {
            return -1;
        }
        act();
        for (int i = 0; i < c.parts.size(); i++) {
            Cloth b = new Cloth();
            b.width = Math.max(2, breadth(c, i));
            b.length = Math.min(200, length(c, i));
            b.grams = now.bolts.get(c.parts.get(i).bolt).grams;
            b.from = sail;
            now.bolts.add(b);
        }
        c.state = 2;
        c.set = false;
        return c.parts.size();
    }

    int old(int bolt) {
        return cloth(bolt) == null ? -1 : cloth(bolt).from;
    }

    boolean undo() {
        if (before.isEmpty()) {
            return false;
        }
        now = before.removeLast();
        return true;
    }

    int count(int what) {
        return what == 0 ? now.bolts.size() : what == 1 ? now.sails.size() : what == 2 ? before.size() : -1;
    }
}
