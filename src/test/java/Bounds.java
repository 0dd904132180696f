import java.util.ArrayList;
import java.util.IdentityHashMap;
import java.util.List;
import java.util.Map;
import java.util.function.Consumer;

/** Checks of one call at a time, at the last input that is as told and at the first that isn't, each
 *  on new objects. */
final class Bounds {
    static final int LOW = Integer.MIN_VALUE;
    static final int HIGH = Integer.MAX_VALUE;

    private static final int[] UNDOS = {0, 1, 17};

    /** Makes a loft; every one that it makes is like the others. */
    interface Start {
        Loft make();
    }

    interface Call {
        long on(Loft x);
    }

    interface CallWith {
        long on(Loft x, int value);
    }

    private final Due due;
    private final Map<Start, List<Loft>> seenLofts = new IdentityHashMap<>();

    Bounds(Due due) {
        this.due = due;
    }

    static long bit(boolean answer) {
        return answer ? 1 : 0;
    }

    /** The call answers so, changes nothing that any other call tells, and is no act. */
    void nothing(String text, Start start, Call call, long want) {
        List<Loft> before = looks(start);
        List<Consumer<Loft>> views = viewsOf(start);
        int at = 0;
        for (int undos : UNDOS) {
            for (Consumer<Loft> view : views) {
                Loft x = start.make();
                int from = x.calls();
                long got = call.on(x);
                int behind = x.calls();
                if (at == 0) {
                    due.is(text, got, want);
                }
                look(x, view, undos);
                same(text + " does nothing", before.get(at), from, x, behind);
                at++;
            }
        }
    }

    /** The call answers so and is an act; when that is undone, all is as it was. */
    void act(String text, Start start, Call call, long want) {
        Loft x = start.make();
        int acts = x.count(2);
        due.is(text, call.on(x), want);
        due.is(text + " is an act", x.count(2), Math.min(16, acts + 1));
        Call undone = y -> {
            call.on(y);
            return bit(y.undo());
        };
        back(text + ", then undone", start, undone, 1);
    }

    /** The call, which undoes what it does, answers so, and all is as it was (but for the acts). */
    void back(String text, Start start, Call call, long want) {
        List<Loft> before = looks(start);
        List<Consumer<Loft>> views = viewsOf(start);
        for (int v = 1; v < views.size(); v++) {
            Loft x = start.make();
            int from = x.calls();
            due.is(text, call.on(x), want);
            int behind = x.calls();
            look(x, views.get(v), 0);
            same(text + ", all is as it was", before.get(v), from, x, behind);
        }
    }

    /** What lies outside of least to most is refused. */
    void outside(String text, Start start, CallWith call, int least, int most, long refusal) {
        for (int value : new int[] {LOW, least - 1, most + 1, HIGH}) {
            nothing(text + " " + value, start, x -> call.on(x, value), refusal);
        }
    }

    /** Least and most are the last that are taken, with this answer. */
    void range(String text, Start start, CallWith call, int least, int most, long want, long refusal) {
        act(text + " " + least, start, x -> call.on(x, least), want);
        act(text + " " + most, start, x -> call.on(x, most), want);
        outside(text, start, call, least, most, refusal);
    }

    void yesRange(String text, Start start, CallWith call, int least, int most) {
        range(text, start, call, least, most, 1, 0);
    }

    // The first view is that of how many acts there are; one bolt and one sail more than there are
    // show what undo should have taken away.
    private static List<Consumer<Loft>> viewsOf(Start start) {
        Loft x = start.make();
        List<Consumer<Loft>> views = new ArrayList<>();
        views.add(Look::acts);
        views.addAll(Look.views(x.count(0) + 1, x.count(1) + 1));
        return views;
    }

    private List<Loft> looks(Start start) {
        List<Loft> looks = seenLofts.get(start);
        if (looks == null) {
            looks = new ArrayList<>();
            for (int undos : UNDOS) {
                for (Consumer<Loft> view : viewsOf(start)) {
                    Loft x = start.make();
                    look(x, view, undos);
                    looks.add(x);
                }
            }
            seenLofts.put(start, looks);
        }
        return looks;
    }

    private static void look(Loft x, Consumer<Loft> view, int undos) {
        for (int u = 0; u < undos; u++) {
            x.undo();
        }
        view.accept(x);
    }

    private void same(String text, Loft want, int wantFrom, Loft got, int gotFrom) {
        int many = want.calls() - wantFrom;
        boolean isSame = many == got.calls() - gotFrom;
        for (int c = 0; c < many && isSame; c++) {
            isSame = want.answer(wantFrom + c) == got.answer(gotFrom + c);
        }
        due.yes(text, isSame);
        if (!isSame) {
            System.out.println(got.run());
        }
    }
}
