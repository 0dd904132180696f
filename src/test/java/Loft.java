/** A SailLoft that notes its calls and answers: what goes wrong can be shown with its whole run, and a
 *  test that calls one object more often than the document tells of fails. */
final class Loft {
    private static final int MOST_CALLS = 512;

    private final SailLoft loft = new SailLoft();
    private final String[] names = new String[MOST_CALLS];
    private final int[][] inputs = new int[MOST_CALLS][];
    private final long[] answers = new long[MOST_CALLS];
    private int calls = 0;

    int calls() {
        return calls;
    }

    int callsLeft() {
        return MOST_CALLS - calls;
    }

    long answer(int call) {
        return answers[call];
    }

    /** The calls so far with their answers, a line each. */
    String run() {
        StringBuilder text = new StringBuilder();
        for (int c = 0; c < calls; c++) {
            String input = java.util.Arrays.toString(inputs[c]);
            text.append("    ").append(names[c]).append('(').append(input, 1, input.length() - 1);
            text.append(") -> ").append(answers[c]).append('\n');
        }
        return text.toString();
    }

    private void begin(String name, int... input) {
        if (calls == MOST_CALLS) {
            throw new IllegalStateException("more than 512 calls:\n" + run());
        }
        names[calls] = name;
        inputs[calls] = input;
        calls++;
    }

    private int end(int answer) {
        answers[calls - 1] = answer;
        return answer;
    }

    private long end(long answer) {
        answers[calls - 1] = answer;
        return answer;
    }

    private boolean end(boolean answer) {
        answers[calls - 1] = answer ? 1 : 0;
        return answer;
    }

    int bolt(int width, int length, int grams) {
        begin("bolt", width, length, grams);
        return end(loft.bolt(width, length, grams));
    }

    boolean row(int bolt, int n) {
        begin("row", bolt, n);
        return end(loft.row(bolt, n));
    }

    boolean wear(int bolt, int k, int v) {
        begin("wear", bolt, k, v);
        return end(loft.wear(bolt, k, v));
    }

    int worn(int bolt, int k) {
        begin("worn", bolt, k);
        return end(loft.worn(bolt, k));
    }

    int sail(int footLeft, int footRight, int headLeft, int headRight, int height) {
        begin("sail", footLeft, footRight, headLeft, headRight, height);
        return end(loft.sail(footLeft, footRight, headLeft, headRight, height));
    }

    boolean edge(int sail, int side, int n) {
        begin("edge", sail, side, n);
        return end(loft.edge(sail, side, n));
    }

    boolean stand(int sail, int side, int y, int v) {
        begin("stand", sail, side, y, v);
        return end(loft.stand(sail, side, y, v));
    }

    int at(int sail, int side, int y) {
        begin("at", sail, side, y);
        return end(loft.at(sail, side, y));
    }

    int cut(int sail, int w, int seam) {
        begin("cut", sail, w, seam);
        return end(loft.cut(sail, w, seam));
    }

    boolean narrow(int sail, int i, int v) {
        begin("narrow", sail, i, v);
        return end(loft.narrow(sail, i, v));
    }

    int patch(int sail, int y, int breadth, int length) {
        begin("patch", sail, y, breadth, length);
        return end(loft.patch(sail, y, breadth, length));
    }

    int told(int sail, int what) {
        begin("told", sail, what);
        return end(loft.told(sail, what));
    }

    int panel(int sail, int i, int what) {
        begin("panel", sail, i, what);
        return end(loft.panel(sail, i, what));
    }

    int full(int sail, int y) {
        begin("full", sail, y);
        return end(loft.full(sail, y));
    }

    boolean lay(int sail, int i, int bolt, int place, int worn) {
        begin("lay", sail, i, bolt, place, worn);
        return end(loft.lay(sail, i, bolt, place, worn));
    }

    boolean lift(int sail, int i) {
        begin("lift", sail, i);
        return end(loft.lift(sail, i));
    }

    int left(int bolt) {
        begin("left", bolt);
        return end(loft.left(bolt));
    }

    int over(int bolt, int k) {
        begin("over", bolt, k);
        return end(loft.over(bolt, k));
    }

    int plan(int worn) {
        begin("plan", worn);
        return end(loft.plan(worn));
    }

    int fewest(int sail, int worn) {
        begin("fewest", sail, worn);
        return end(loft.fewest(sail, worn));
    }

    boolean mast(int k, int load) {
        begin("mast", k, load);
        return end(loft.mast(k, load));
    }

    boolean wind(int y, int push) {
        begin("wind", y, push);
        return end(loft.wind(y, push));
    }

    boolean set(int sail, boolean is) {
        begin("set", sail, is ? 1 : 0);
        return end(loft.set(sail, is));
    }

    boolean reef(int sail, int line) {
        begin("reef", sail, line);
        return end(loft.reef(sail, line));
    }

    int line(int sail, int y) {
        begin("line", sail, y);
        return end(loft.line(sail, y));
    }

    long push(int k) {
        begin("push", k);
        return end(loft.push(k));
    }

    int bears() {
        begin("bears");
        return end(loft.bears());
    }

    int least() {
        begin("least");
        return end(loft.least());
    }

    int take(int sail) {
        begin("take", sail);
        return end(loft.take(sail));
    }

    int old(int bolt) {
        begin("old", bolt);
        return end(loft.old(bolt));
    }

    boolean undo() {
        begin("undo");
        return end(loft.undo());
    }

    int count(int what) {
        begin("count", what);
        return end(loft.count(what));
    }
}
