/** Promises 34 to 37: whose PLAIT is where, by feel. */
public final class FeelTest {
    private static final int NONE = HairRope.NONE;
    private static final int LEAST = Integer.MIN_VALUE;
    private static final int GREATEST = Integer.MAX_VALUE;
    private static final String THREE = "house a 8 60; house b 6 40; house c 5 20;";

    public static void main(String[] args) {
        tells();
        rowsOfNothingKnown();
        rowsOfWhatIsKnown();
        rowsByWhatIsNow();
        feels();
        wrongOnes();
        Check.end();
    }

    private static void rows(HairRope x, int k, int l, int fits, int first) {
        Check.due("rows(" + k + ", " + l + ", 0)", x.rows(k, l, 0), fits);
        Check.due("rows(" + k + ", " + l + ", 1)", x.rows(k, l, 1), first);
    }

    private static void tells() {
        HairRope x = new HairRope();
        Check.due("forget() of nothing", x.forget(), 0);
        Check.due("tell(-1, 5, true)", x.tell(-1, 5, true), NONE);
        Check.due("tell(6, 5, true)", x.tell(6, 5, true), NONE);
        Check.due("tell(0, -1, true)", x.tell(0, -1, true), NONE);
        Check.due("tell(0, 100, true)", x.tell(0, 100, true), NONE);
        Check.due("tell(least, 0, true)", x.tell(LEAST, 0, true), NONE);
        Check.due("tell(0, greatest, true)", x.tell(0, GREATEST, true), NONE);
        Check.due("nothing is TOLD", x.count(10), 0);
        for (int i = 0; i < 20; i++) {
            Check.due("tell " + i, x.tell(i % 6, i * 99 / 19, i % 2 == 0), i);
        }
        Check.due("tell of a 21st", x.tell(0, 5, true), NONE);
        Check.due("20 are TOLD", x.count(10), 20);
        Check.due("tell is no thing done", x.count(9), 0);
        Check.due("forget()", x.forget(), 20);
        Check.due("nothing is TOLD", x.count(10), 0);
        Check.due("tell anew", x.tell(5, 99, false), 0);
    }

    private static void rowsOfNothingKnown() {
        HairRope x = Check.ropeOf(THREE);
        rows(x, 0, 1, 3, 0);
        rows(x, 0, 2, 6, 1);
        rows(x, 0, 3, 6, 8);
        rows(x, 0, 4, 0, -2);
        rows(x, 0, 6, 0, -2);
        HairRope six = Check.ropeOf("house a 1 1; house b 1 1; house c 1 1; house d 1 1; house e 1 1; house f 1 1;");
        rows(six, 0, 6, 720, ((((0 * 6 + 1) * 6 + 2) * 6 + 3) * 6 + 4) * 6 + 5);
        rows(six, 0, 4, 360, ((0 * 6 + 1) * 6 + 2) * 6 + 3);
        rows(new HairRope(), 0, 1, 0, -2);
    }

    private static void rowsOfWhatIsKnown() {
        HairRope x = Check.ropeOf(THREE);
        x.tell(0, 40, true);
        x.tell(1, 40, false);
        x.tell(0, 41, false);
        x.tell(0, 99, true);
        rows(x, 0, 2, 6, 1);
        rows(x, 1, 1, 2, 0);
        rows(x, 1, 2, 4, 1);
        rows(x, 2, 2, 2, 2);
        rows(x, 2, 3, 2, 13);
        rows(x, 2, 1, 0, -2);
        rows(x, 3, 2, 1, 8);
        rows(x, 3, 3, 1, 48);
        rows(x, 4, 2, 0, -2);
        x.forget();
        x.tell(5, 10, false);
        rows(x, 0, 3, 6, 8);
        rows(x, 1, 3, 0, -2);
        HairRope y = Check.ropeOf(THREE);
        y.tell(2, 0, true);
        rows(y, 1, 3, 6, 8);
        rows(y, 1, 2, 0, -2);
        y.forget();
        y.tell(2, 0, false);
        rows(y, 1, 3, 0, -2);
    }

    private static void rowsByWhatIsNow() {
        HairRope x = Check.ropeOf(THREE);
        x.tell(0, 40, true);
        x.splice(0);
        rows(x, 1, 1, 2, 0);
        x.years(21);
        rows(x, 1, 1, 1, 1);
        x.unsplice();
        rows(x, 1, 1, 2, 0);
        x.undo();
        rows(x, 1, 1, 1, 1);
        Check.due("TOLD stays", x.count(10), 1);
    }

    private static void feels() {
        HairRope x = Check.ropeOf(THREE);
        Check.due("feel(0, 2, 50): of alike ones the highest", x.feel(0, 2, 50), 0);
        Check.due("feel(0, 1, 0)", x.feel(0, 1, 0), 0);
        x.tell(0, 40, true);
        Check.due("feel(1, 2, 50)", x.feel(1, 2, 50), 0);
        Check.due("feel(1, 2, 30)", x.feel(1, 2, 30), 1);
        Check.due("feel(1, 2, 99)", x.feel(1, 2, 99), 0);
        Check.due("feel(0, 2, 30)", x.feel(0, 2, 30), 0);
        // Rows abc, acb, bac, bca: who is below 40 is at place 1 or 2 in two each.
        Check.due("feel(1, 3, 30)", x.feel(1, 3, 30), 1);
        x.tell(1, 50, false);
        // Rows abc, acb, bca: at place 0 a twice, at place 2 a once; c at place 1 twice, at place 2 once.
        Check.due("feel(2, 3, 50)", x.feel(2, 3, 50), 0);
        Check.due("feel(2, 3, 30)", x.feel(2, 3, 30), 1);
        Check.due("feel(2, 1, 30): none FIT", x.feel(2, 1, 30), -2);
        Check.due("feel(0, 4, 30): none FIT", x.feel(0, 4, 30), -2);
        Check.due("feel(0, 1, 30) without HOUSES", new HairRope().feel(0, 1, 30), -2);
    }

    private static void wrongOnes() {
        HairRope x = Check.ropeOf(THREE);
        x.tell(0, 40, true);
        for (int no : new int[] {-1, 2, LEAST, GREATEST}) {
            Check.due("rows(" + no + ", 1, 0)", x.rows(no, 1, 0), NONE);
            Check.due("rows(1, 1, " + no + ")", x.rows(1, 1, no), NONE);
            Check.due("feel(" + no + ", 1, 5)", x.feel(no, 1, 5), NONE);
            Check.due("feel(" + no + ", 4, 5), none FIT besides", x.feel(no, 4, 5), NONE);
        }
        for (int no : new int[] {-1, 0, 7, LEAST, GREATEST}) {
            Check.due("rows(1, " + no + ", 0)", x.rows(1, no, 0), NONE);
            Check.due("feel(1, " + no + ", 5)", x.feel(1, no, 5), NONE);
        }
        for (int no : new int[] {-1, 100, LEAST, GREATEST}) {
            Check.due("feel(1, 1, " + no + ")", x.feel(1, 1, no), NONE);
        }
    }
}
