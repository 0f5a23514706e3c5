/** A call that is refused changes nothing: behind it an object answers, and goes back, as its twin does that was not called. */
public final class RefusedTest {
    private static final int NONE = HairRope.NONE;
    private static final String THREE = "house a 8 60;house b 6 40;house c 5 20;house d 0 9;likes a b 9;likes b c 2;well 12;";
    private static final int STATES = 5;

    public static void main(String[] args) {
        feeds();
        backs();
        splices();
        unsplices();
        hauls();
        years();
        undoes();
        tells();
        holds();
        restores();
        reads();
        wrongAsks();
        Check.end();
    }

    /** States of many kinds: new; read; with a ROPE and more; with the ROPE broken; full of all that can be. */
    private static HairRope state(int number) {
        HairRope x = new HairRope();
        if (number == 0) {
            return x;
        }
        Check.read(x, THREE + (number > 2 ? "blight 30;seed 5;grows=2;" : ""));
        if (number == 1) {
            return x;
        }
        x.splice(0);
        x.splice(1);
        x.hold(1);
        x.haul(number == 3 ? 45 : 5);
        x.years(2);
        x.tell(0, 30, true);
        x.tell(1, 50, false);
        Check.feed(x, "well 3;");
        if (number == 4) {
            full(x);
        }
        return x;
    }

    /** All full: what is TOLD, SLOTS, things to be undone. */
    private static void full(HairRope x) {
        for (int i = 2; i < 20; i++) {
            x.tell(i % 2, i == 19 ? 10 : 0, true);
        }
        for (int i = 0; i < 3; i++) {
            x.hold(i);
            x.years(1);
        }
        for (int i = 0; i < 42; i++) {
            x.years(1);
        }
        x.undo();
        x.years(1);
    }

    private static void by(int promise, String words) {
        Check.by(promise, words);
    }

    private static void feeds() {
        by(2, "NONE, and nothing comes, if it would have more than 2,000.");
        for (int room : new int[] {0, 1, 19}) {
            HairRope x = fed(2000 - room);
            Check.due("feed with room for " + room, x.feed(0x3f3f3f3f, 0x3f3f3f3f, 0x3f3f3f3f, 0x3f3f3f3f, 0x3f3f3f3f), NONE);
            Trace.same(x, fed(2000 - room), "feed with room for " + room);
        }
    }

    /** A state with so many bytes on the tape. */
    private static HairRope fed(int bytes) {
        HairRope x = state(2);
        x.back(7);
        Check.feed(x, " ".repeat(bytes - 7) + "well 3;");
        Check.due("count(8)", x.count(8), bytes);
        return x;
    }

    private static void backs() {
        by(3, "NONE, and nothing goes, if it has not so many, or n is below 0.");
        for (int s = 0; s < STATES; s++) {
            int bytes = state(s).count(8);
            for (int n : Check.outside(0, bytes)) {
                HairRope x = state(s);
                Check.due("back(" + n + ")", x.back(n), NONE);
                Trace.same(x, state(s), "back(" + n + ") in state " + s);
            }
        }
    }

    private static void splices() {
        by(10, "NONE, and nothing happens: it has a PLAIT there, HAIR 0, no such HOUSE.");
        for (int s = 0; s < STATES; s++) {
            int houses = state(s).count(0);
            for (int no : Check.outside(0, houses - 1)) {
                HairRope x = state(s);
                Check.due("splice(" + no + ")", x.splice(no), NONE);
                Trace.same(x, state(s), "splice(" + no + ") in state " + s);
            }
            for (int house = 0; house < houses; house++) {
                HairRope x = state(s);
                if (x.house(house, 2) >= 0 || x.house(house, 0) == 0) {
                    Check.due("splice(" + house + ")", x.splice(house), NONE);
                    Trace.same(x, state(s), "splice(" + house + ") in state " + s);
                }
            }
        }
    }

    private static void unsplices() {
        by(11, "NONE, and nothing happens: no ROPE.");
        for (int s = 0; s < 2; s++) {
            HairRope x = state(s);
            Check.due("unsplice()", x.unsplice(), NONE);
            Trace.same(x, state(s), "unsplice() in state " + s);
        }
        HairRope x = state(2);
        HairRope y = state(2);
        x.unsplice();
        x.unsplice();
        y.unsplice();
        y.unsplice();
        Check.due("unsplice() of none that is left", x.unsplice(), NONE);
        Trace.same(x, y, "unsplice() of none that is left");
    }

    private static void hauls() {
        by(12, "NONE, and nothing happens: not LONG enough, no such w.");
        for (int s = 0; s < STATES; s++) {
            for (int no : Check.outside(0, 999)) {
                HairRope x = state(s);
                Check.due("haul(" + no + ")", x.haul(no), NONE);
                Trace.same(x, state(s), "haul(" + no + ") in state " + s);
            }
            for (int w : new int[] {0, 1, 40, 999}) {
                HairRope x = state(s);
                if (x.count(12) == 0) {
                    Check.due("haul(" + w + ")", x.haul(w), NONE);
                    Trace.same(x, state(s), "haul(" + w + ") in state " + s);
                }
            }
        }
    }

    private static void years() {
        for (int s = 0; s < STATES; s++) {
            by(13, "NONE, and nothing happens: no such n.");
            for (int no : Check.outside(0, 60)) {
                HairRope x = state(s);
                Check.due("years(" + no + ")", x.years(no), NONE);
                Trace.same(x, state(s), "years(" + no + ") in state " + s);
            }
            by(13, "(0 .. 60; 0 is no thing done)");
            HairRope x = state(s);
            Check.due("years(0)", x.years(0), x.count(2));
            Trace.same(x, state(s), "years(0) in state " + s);
        }
    }

    private static void undoes() {
        by(14, "false: there is none");
        for (int s = 0; s < STATES; s++) {
            HairRope x = state(s);
            HairRope y = state(s);
            while (x.count(9) > 0) {
                x.undo();
                y.undo();
            }
            Check.due("undo()", x.undo(), false);
            Trace.same(x, y, "undo() of nothing in state " + s);
        }
    }

    private static void tells() {
        by(34, "NONE, and nothing happens: 20 are there, no such ones.");
        for (int s = 0; s < STATES; s++) {
            for (int no : Check.outside(0, 5)) {
                HairRope x = state(s);
                Check.due("tell(" + no + ", 5, true)", x.tell(no, 5, true), NONE);
                Trace.same(x, state(s), "tell(" + no + ", 5, true) in state " + s);
            }
            for (int no : Check.outside(0, 99)) {
                HairRope x = state(s);
                Check.due("tell(1, " + no + ", false)", x.tell(1, no, false), NONE);
                Trace.same(x, state(s), "tell(1, " + no + ", false) in state " + s);
            }
        }
        HairRope x = state(4);
        Check.due("tell of a 21st", x.tell(0, 99, true), NONE);
        Trace.same(x, state(4), "tell of a 21st");
    }

    private static void holds() {
        by(38, "false: no such one.");
        for (int s = 0; s < STATES; s++) {
            for (int no : Check.outside(0, 2)) {
                HairRope x = state(s);
                Check.due("hold(" + no + ")", x.hold(no), false);
                Trace.same(x, state(s), "hold(" + no + ") in state " + s);
            }
        }
    }

    private static void restores() {
        by(39, "false, and nothing happens: no such one, nothing is held.");
        for (int s = 0; s < STATES; s++) {
            for (int no : Check.outside(0, 2)) {
                HairRope x = state(s);
                Check.due("restore(" + no + ")", x.restore(no), false);
                Trace.same(x, state(s), "restore(" + no + ") in state " + s);
            }
            for (int slot = 0; slot < 3; slot++) {
                HairRope x = state(s);
                if (x.count(11) == 0 || slot != 1 && x.count(11) == 1) {
                    Check.due("restore(" + slot + ")", x.restore(slot), false);
                    Trace.same(x, state(s), "restore(" + slot + ") in state " + s);
                }
            }
        }
    }

    private static void reads() {
        by(Check.TERMS, "A text with a FAULT changes nothing but the tape");
        String[] faults = {"?", "house q 1 1;well 9;house", "grows=(((((((1)))))));", "house q 1 1;house q 1 1;", "likes a b 3;", "well 0;"};
        for (int s = 0; s < STATES; s++) {
            for (String fault : faults) {
                HairRope x = state(s);
                HairRope y = state(s);
                x.back(x.count(8));
                y.back(y.count(8));
                Check.due("read() of " + fault, Check.read(x, fault) > 0, true);
                Check.due("count(8)", x.count(8), 0);
                Trace.same(x, y, "read() of " + fault + " in state " + s);
            }
        }
    }

    /** Asking for what there is not changes nothing either. */
    private static void wrongAsks() {
        by(Check.TERMS, "Where NONE and -2 could both be told, it is NONE");
        for (int s = 0; s < STATES; s++) {
            HairRope x = state(s);
            for (int no : new int[] {-1, Check.LEAST, Check.GREATEST}) {
                asks(x, no);
            }
            Trace.same(x, state(s), "asked for what there is not, in state " + s);
        }
    }

    private static void asks(HairRope x, int no) {
        int[] answers = {x.house(no, 0), x.house(0, no), x.likes(no, 0), x.joins(0, no), x.at(no), x.weakest(no), x.below(no), x.orders(no),
            x.fewest(no, 0), x.needed(no), x.soon(no), x.peace(no, 0), x.peace(0, no), x.rests(no), x.share(no), x.lasts(no),
            x.harvest(no, 1, 0), x.harvest(0, no, 0), x.harvest(0, 1, no), x.quarrel(no), x.greyest(no), x.then(no, 1, 0), x.then(0, no, 0),
            x.then(0, 1, no), x.year(no, 0, 0, 1), x.year(0, no, 0, 1), x.year(0, 0, no, 1), x.year(0, 0, 0, no), x.rows(no, 1, 0),
            x.rows(0, no, 0), x.rows(0, 1, no), x.feel(no, 1, 0), x.feel(0, no, 0), x.feel(0, 1, no), x.count(no)};
        for (int i = 0; i < answers.length; i++) {
            Check.due("ask " + i + " for " + no, answers[i], NONE);
        }
    }
}
