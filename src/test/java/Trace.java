import java.util.ArrayList;
import java.util.List;

/** Most of what an object can be asked, in few enough calls, so that two of them can be held beside one another. */
final class Trace {
    private static final int HOUSES = 4;
    private static final int UNDONE = 40;

    private Trace() { }

    /** That two objects answer alike, whatever is asked or undone. Both are used up by it. */
    static void same(HairRope x, HairRope y, String when) {
        List<String> calls = new ArrayList<>();
        List<Integer> is = answers(x, calls);
        List<Integer> due = answers(y, new ArrayList<>());
        Check.due(when + ": as many answers", is.size(), due.size());
        for (int i = 0; i < is.size() && i < due.size(); i++) {
            Check.due(when + ": " + calls.get(i), is.get(i), due.get(i));
        }
    }

    private static List<Integer> answers(HairRope x, List<String> calls) {
        List<Integer> all = new ArrayList<>();
        looks(x, all, calls);
        plans(x, all, calls);
        feels(x, all, calls);
        goesBack(x, all, calls);
        return all;
    }

    private static void add(List<Integer> all, List<String> calls, String call, int answer) {
        calls.add(call);
        all.add(answer);
    }

    private static void counts(HairRope x, List<Integer> all, List<String> calls) {
        for (int what = 0; what <= 16; what++) {
            add(all, calls, "count(" + what + ")", x.count(what));
        }
    }

    private static void looks(HairRope x, List<Integer> all, List<String> calls) {
        counts(x, all, calls);
        for (int h = 0; h < HOUSES; h++) {
            for (int what = 0; what <= 8; what++) {
                add(all, calls, "house(" + h + ", " + what + ")", x.house(h, what));
            }
            for (int o = 0; o < HOUSES; o++) {
                add(all, calls, "likes(" + h + ", " + o + ")", x.likes(h, o));
                add(all, calls, "joins(" + h + ", " + o + ")", x.joins(h, o));
            }
            add(all, calls, "at(" + h + ")", x.at(h));
            add(all, calls, "below(" + h + ")", x.below(h));
            add(all, calls, "share(" + h + ")", x.share(h));
        }
    }

    private static void plans(HairRope x, List<Integer> all, List<String> calls) {
        add(all, calls, "most()", x.most());
        add(all, calls, "peak()", x.peak());
        add(all, calls, "pivots()", x.pivots());
        add(all, calls, "swap()", x.swap());
        add(all, calls, "orders(5)", x.orders(5));
        add(all, calls, "needed(5)", x.needed(5));
        add(all, calls, "soon(30)", x.soon(30));
        add(all, calls, "lasts(20)", x.lasts(20));
        add(all, calls, "fewest(5, -1)", x.fewest(5, -1));
        for (int what = 0; what <= 1; what++) {
            add(all, calls, "weakest(" + what + ")", x.weakest(what));
            add(all, calls, "rests(" + what + ")", x.rests(what));
            add(all, calls, "quarrel(" + what + ")", x.quarrel(what));
            add(all, calls, "greyest(" + what + ")", x.greyest(what));
            add(all, calls, "peace(20, " + what + ")", x.peace(20, what));
            for (int h = 0; h < 3; h++) {
                add(all, calls, "harvest(" + h + ", 4, " + what + ")", x.harvest(h, 4, what));
                add(all, calls, "then(" + h + ", 3, " + what + ")", x.then(h, 3, what));
            }
        }
        add(all, calls, "year(0, 9, 2, 4)", x.year(0, 9, 2, 4));
    }

    private static void feels(HairRope x, List<Integer> all, List<String> calls) {
        int told = x.count(10);
        for (int k = Math.max(0, told - 4); k <= told; k++) {
            add(all, calls, "rows(" + k + ", 3, 0)", x.rows(k, 3, 0));
            add(all, calls, "rows(" + k + ", 2, 1)", x.rows(k, 2, 1));
        }
        add(all, calls, "feel(0, 2, 45)", x.feel(0, 2, 45));
    }

    private static void goesBack(HairRope x, List<Integer> all, List<String> calls) {
        for (int i = 0; i <= UNDONE && x.undo(); i++) {
            state(x, all, calls, "undo " + i);
        }
        for (int slot = 0; slot < 3; slot++) {
            add(all, calls, "restore(" + slot + ")", x.restore(slot) ? 1 : 0);
            state(x, all, calls, "restore(" + slot + ")");
        }
        add(all, calls, "read() of what is on the tape", x.read());
        add(all, calls, "place() of what is on the tape", x.place());
        counts(x, all, calls);
    }

    private static void state(HairRope x, List<Integer> all, List<String> calls, String when) {
        for (int what : new int[] {2, 5, 6, 14, 16}) {
            add(all, calls, when + ", count(" + what + ")", x.count(what));
        }
    }
}
