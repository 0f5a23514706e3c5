/** The edges that the document names of what is TOLD: the Terms' fourth part, promises 34 to 37. */
public final class FeelEdgeTest {
    private static final int NONE = HairRope.NONE;
    private static final int NOT = -2;
    private static final String THREE = "house a 8 60;house b 6 40;house c 5 20;";
    private static final String SIX = "house a 1 10;house b 1 20;house c 1 30;house d 1 40;house e 1 50;house f 1 60;";

    public static void main(String[] args) {
        toldBounds();
        toldTwenty();
        toldStrongOrMore();
        toldPlaits();
        known();
        rowsOfUnlike();
        rowsOfAPlaceNotThere();
        rowsFirst();
        rowsNone();
        feelFewestAtWorst();
        feelHighest();
        feelNoneFit();
        feelNone();
        forget();
        Check.end();
    }

    private static void toldBounds() {
        Check.by(Check.TERMS, "TOLD: that in a row of unlike HOUSES unknown the one at a place (0 .. 5) is STRONG v (0 .. 99) or more");
        Check.by(34, "It is TOLD: its number; NONE, and nothing happens: 20 are there, no such ones.");
        HairRope x = Check.ropeOf(THREE);
        int number = 0;
        for (boolean so : new boolean[] {true, false}) {
            for (int no : Check.outside(0, 5)) {
                Check.due("tell(" + no + ", 5, " + so + ")", x.tell(no, 5, so), NONE);
            }
            for (int no : Check.outside(0, 99)) {
                Check.due("tell(0, " + no + ", " + so + ")", x.tell(0, no, so), NONE);
            }
            Check.due("TOLD ones", x.count(10), number);
            int[][] good = {{0, 0}, {5, 99}, {5, 0}, {0, 99}};
            for (int[] g : good) {
                Check.due("tell(" + g[0] + ", " + g[1] + ", " + so + ")", x.tell(g[0], g[1], so), number);
                number++;
                Check.due("TOLD ones", x.count(10), number);
            }
        }
        Check.due("it is no thing done", x.count(9), 0);
        Check.due("tell(0, 5, true) without HOUSES", new HairRope().tell(0, 5, true), 0);
    }

    private static void toldTwenty() {
        Check.by(Check.TERMS, "20 at most, numbered from 0 on");
        HairRope x = Check.ropeOf(THREE);
        for (int i = 0; i < 20; i++) {
            Check.due("tell number " + i, x.tell(0, 0, true), i);
        }
        Check.due("a 21st", x.tell(0, 99, true), NONE);
        Check.due("a 21st that is none", x.tell(6, 99, true), NONE);
        Check.due("TOLD ones", x.count(10), 20);
        Check.due("rows(20, 1, 0): the 21st is not there", x.rows(20, 1, 0), 3);
        Check.due("rows(21, 1, 0)", x.rows(21, 1, 0), NONE);
        x.forget();
        for (int i = 0; i < 20; i++) {
            Check.due("tell number " + i + " anew", x.tell(0, i < 19 ? 0 : 40, true), i);
        }
        Check.due("rows(19, 1, 0)", x.rows(19, 1, 0), 3);
        Check.due("rows(20, 1, 0): the last one counts", x.rows(20, 1, 0), 2);
    }

    private static void toldStrongOrMore() {
        Check.by(Check.TERMS, "is STRONG v (0 .. 99) or more (its PLAIT, without one as told at first), or is not");
        int[][] told = {{0, 3}, {1, 3}, {20, 3}, {21, 2}, {39, 2}, {40, 2}, {41, 1}, {60, 1}, {61, 0}, {99, 0}};
        for (int[] t : told) {
            HairRope x = Check.ropeOf(THREE);
            x.tell(0, t[0], true);
            Check.due("rows(1, 1, 0): STRONG " + t[0] + " or more", x.rows(1, 1, 0), t[1]);
            Check.due("rows(1, 2, 0)", x.rows(1, 2, 0), t[1] * 2);
            HairRope y = Check.ropeOf(THREE);
            y.tell(0, t[0], false);
            Check.due("rows(1, 1, 0): not STRONG " + t[0] + " or more", y.rows(1, 1, 0), 3 - t[1]);
        }
        HairRope x = Check.ropeOf("house a 5 99;house b 5 1;");
        x.tell(0, 99, true);
        Check.due("rows(1, 1, 1) of STRONG 99", x.rows(1, 1, 1), 0);
        x.forget();
        x.tell(0, 99, false);
        Check.due("rows(1, 1, 1) of less than 99", x.rows(1, 1, 1), 1);
    }

    private static void toldPlaits() {
        Check.by(Check.TERMS, "(its PLAIT, without one as told at first)");
        HairRope x = Check.ropeOf(THREE, 0);
        x.tell(0, 40, true);
        x.tell(0, 0, true);
        Check.due("rows(1, 1, 0): a 60, b 40", x.rows(1, 1, 0), 2);
        x.years(20);
        Check.due("a is 40 by now", x.rows(1, 1, 0), 2);
        x.years(1);
        Check.due("a is 39 by now", x.rows(1, 1, 0), 1);
        Check.due("b alone", x.rows(1, 1, 1), 1);
        x.years(60);
        Check.due("a PLAIT of 0 is STRONG 0 or more", x.rows(2, 1, 1), 1);
        Check.due("feel(0, 1, 0)", x.feel(0, 1, 0), 0);
        x.unsplice();
        Check.due("a without PLAIT", x.rows(1, 1, 1), 0);
        x.splice(0);
        Check.due("a PLAIT anew", x.rows(1, 1, 1), 0);
        x.undo();
        x.undo();
        Check.due("undone", x.rows(1, 1, 1), 1);
        Check.due("TOLD stays", x.count(10), 2);
    }

    private static void known() {
        Check.by(Check.TERMS, "KNOWN by k: the first k");
        HairRope x = Check.ropeOf(THREE);
        x.tell(0, 40, true);
        x.tell(1, 40, false);
        x.tell(0, 41, false);
        x.tell(0, 99, true);
        int[][] want = {{6, 1}, {4, 1}, {2, 2}, {1, 8}, {0, NOT}};
        for (int k = 0; k <= 4; k++) {
            Check.due("rows(" + k + ", 2, 0)", x.rows(k, 2, 0), want[k][0]);
            Check.due("rows(" + k + ", 2, 1)", x.rows(k, 2, 1), want[k][1]);
        }
        Check.due("rows(5, 2, 0)", x.rows(5, 2, 0), NONE);
        Check.due("rows(-1, 2, 0)", x.rows(-1, 2, 0), NONE);
    }

    private static void rowsOfUnlike() {
        Check.by(Check.TERMS, "ROWS of l (1 .. 6): those of l unlike HOUSES by which all that is KNOWN is so");
        int[][] rows = {{0, 0, 0, 0, 0, 0}, {1, 0, 0, 0, 0, 0}, {2, 2, 0, 0, 0, 0}, {3, 6, 6, 0, 0, 0}, {4, 12, 24, 24, 0, 0},
            {5, 20, 60, 120, 120, 0}, {6, 30, 120, 360, 720, 720}};
        StringBuilder text = new StringBuilder();
        for (int houses = 0; houses <= 6; houses++) {
            HairRope x = Check.ropeOf(text.toString());
            for (int l = 1; l <= 6; l++) {
                Check.due("rows(0, " + l + ", 0) of " + houses, x.rows(0, l, 0), rows[houses][l - 1]);
            }
            text.append("house ").append((char) ('a' + houses)).append(" 0 9;");
        }
    }

    private static void rowsOfAPlaceNotThere() {
        Check.by(Check.TERMS, "(of a place that is not there nothing is so, nor not so: such a row does not FIT)");
        for (boolean so : new boolean[] {true, false}) {
            for (int place = 0; place <= 5; place++) {
                HairRope x = Check.ropeOf(SIX);
                x.tell(place, so ? 0 : 99, so);
                for (int l = 1; l <= 6; l++) {
                    int all = Check.ropeOf(SIX).rows(0, l, 0);
                    Check.due("rows(1, " + l + ", 0) as place " + place + " is KNOWN", x.rows(1, l, 0), place < l ? all : 0);
                    Check.due("rows(1, " + l + ", 1) as place " + place + " is KNOWN", x.rows(1, l, 1) == NOT, place >= l);
                    Check.due("feel(1, " + l + ", 30) as place " + place + " is KNOWN", x.feel(1, l, 30) == NOT, place >= l);
                    Check.due("rows(0, " + l + ", 0): it is not KNOWN", x.rows(0, l, 0), all);
                }
            }
        }
    }

    private static void rowsFirst() {
        Check.by(Check.TERMS, "how many FIT; the first, by the HOUSE at place 0, then at the next one:"
            + " 6 times what those so far come to and the HOUSE, to the last one.");
        HairRope x = Check.ropeOf(SIX);
        int[] first = {0, 1, 8, 51, 310, 1865};
        for (int l = 1; l <= 6; l++) {
            Check.due("rows(0, " + l + ", 1)", x.rows(0, l, 1), first[l - 1]);
        }
        x.tell(0, 60, true);
        x.tell(1, 50, true);
        x.tell(2, 40, true);
        x.tell(3, 30, true);
        x.tell(4, 20, true);
        x.tell(5, 10, true);
        // f, e, d, c, b, a alone.
        int[] last = {5, 34, 207, 1244, 7465, 44790};
        for (int l = 1; l <= 6; l++) {
            Check.due("rows(" + l + ", " + l + ", 0)", x.rows(l, l, 0), 1);
            Check.due("rows(" + l + ", " + l + ", 1)", x.rows(l, l, 1), last[l - 1]);
        }
        x.forget();
        x.tell(1, 20, false);
        Check.due("rows(1, 3, 1): a at place 1, b at place 0", x.rows(1, 3, 1), (1 * 6 + 0) * 6 + 2);
        x.tell(0, 30, true);
        Check.due("rows(2, 3, 1): c, a, b", x.rows(2, 3, 1), (2 * 6 + 0) * 6 + 1);
    }

    private static void rowsNone() {
        Check.by(36, "ROWS of l, as KNOWN by k: what 0 how many FIT, 1 the first (-2: none); NONE: no such ones.");
        HairRope x = Check.ropeOf(THREE);
        x.tell(0, 40, true);
        x.tell(0, 40, false);
        Check.due("rows(2, 1, 0): none", x.rows(2, 1, 0), 0);
        Check.due("rows(2, 1, 1): none", x.rows(2, 1, 1), NOT);
        for (int no : Check.outside(0, 2)) {
            Check.due("rows(" + no + ", 1, 0)", x.rows(no, 1, 0), NONE);
            Check.due("rows(" + no + ", 1, 1)", x.rows(no, 1, 1), NONE);
        }
        for (int no : Check.outside(1, 6)) {
            Check.due("rows(0, " + no + ", 0)", x.rows(0, no, 0), NONE);
            Check.due("rows(2, " + no + ", 1)", x.rows(2, no, 1), NONE);
        }
        for (int no : Check.outside(0, 1)) {
            Check.due("rows(0, 1, " + no + ")", x.rows(0, 1, no), NONE);
            Check.due("rows(2, 1, " + no + ")", x.rows(2, 1, no), NONE);
        }
        Check.due("rows(0, 6, 0) of three", x.rows(0, 6, 0), 0);
        Check.due("rows(0, 6, 1) of three", x.rows(0, 6, 1), NOT);
        Check.due("rows(0, 1, 1) without HOUSES", new HairRope().rows(0, 1, 1), NOT);
        Check.due("rows(1, 1, 0) of nothing TOLD", new HairRope().rows(1, 1, 0), NONE);
    }

    private static void feelFewestAtWorst() {
        Check.by(Check.TERMS, "FEEL of l by v: the place of which, once it is told so of v, fewest are left, at worst");
        HairRope x = Check.ropeOf(THREE);
        x.tell(0, 40, true);
        // ab, ac, ba, bc: by 30 place 0 leaves 4 or 0, place 1 leaves 2 or 2; by 50 place 0 leaves 2 or 2, place 1 1 or 3.
        Check.due("feel(1, 2, 30)", x.feel(1, 2, 30), 1);
        Check.due("feel(1, 2, 50)", x.feel(1, 2, 50), 0);
        x.tell(1, 50, false);
        // abc, acb, bca: by 50 place 0 leaves 2 or 1, place 1 0 or 3, place 2 1 or 2; by 30 3 or 0, 1 or 2, 2 or 1.
        Check.due("feel(2, 3, 50)", x.feel(2, 3, 50), 0);
        Check.due("feel(2, 3, 30)", x.feel(2, 3, 30), 1);
        x.forget();
        x.tell(0, 30, true);
        x.tell(1, 30, true);
        // abc, bac: by 50 the places leave 1 or 1, 1 or 1, 0 or 2.
        Check.due("feel(2, 3, 50)", x.feel(2, 3, 50), 0);
        HairRope y = Check.ropeOf(SIX);
        y.tell(0, 60, true);
        y.tell(1, 50, true);
        y.tell(2, 40, true);
        y.tell(3, 30, true);
        // f, e, d, c and a, b or b, a: by 20 only the places 4 and 5 tell them apart.
        Check.due("feel(4, 6, 20)", y.feel(4, 6, 20), 4);
        Check.due("feel(4, 5, 20)", y.feel(4, 5, 20), 4);
        Check.due("feel(4, 4, 20)", y.feel(4, 4, 20), 0);
        HairRope z = Check.ropeOf(SIX);
        z.tell(0, 60, true);
        z.tell(1, 50, true);
        z.tell(2, 40, true);
        z.tell(3, 30, true);
        z.tell(4, 20, true);
        Check.due("feel(5, 6, 20): one is left", z.feel(5, 6, 20), 0);
    }

    private static void feelHighest() {
        Check.by(Check.TERMS, "of alike ones the highest (the least number)");
        HairRope x = Check.ropeOf(SIX);
        for (int l = 1; l <= 6; l++) {
            for (int v : new int[] {0, 1, 10, 11, 35, 60, 61, 99}) {
                Check.due("feel(0, " + l + ", " + v + ")", x.feel(0, l, v), 0);
            }
        }
        x.tell(0, 0, true);
        Check.due("feel(1, 6, 0): all are left at each", x.feel(1, 6, 0), 0);
        x.forget();
        x.tell(0, 60, true);
        Check.due("feel(1, 6, 35): place 0 is known, the next ones are alike", x.feel(1, 6, 35), 1);
    }

    private static void feelNoneFit() {
        Check.by(37, "FEEL of l by v (0 .. 99), as KNOWN by k; -2: none FIT; NONE: no such ones.");
        HairRope x = Check.ropeOf(THREE);
        x.tell(0, 99, true);
        Check.due("feel(1, 1, 0)", x.feel(1, 1, 0), NOT);
        Check.due("feel(1, 1, 99)", x.feel(1, 1, 99), NOT);
        Check.due("feel(0, 1, 0)", x.feel(0, 1, 0), 0);
        Check.due("feel(0, 3, 99)", x.feel(0, 3, 99), 0);
        Check.due("feel(0, 4, 0): not so many HOUSES", x.feel(0, 4, 0), NOT);
        Check.due("feel(0, 6, 99): not so many HOUSES", x.feel(0, 6, 99), NOT);
        Check.due("feel(0, 1, 0) without HOUSES", new HairRope().feel(0, 1, 0), NOT);
    }

    private static void feelNone() {
        Check.by(37, "NONE: no such ones.");
        HairRope x = Check.ropeOf(THREE);
        x.tell(0, 99, true);
        for (int no : Check.outside(0, 1)) {
            Check.due("feel(" + no + ", 1, 0)", x.feel(no, 1, 0), NONE);
            Check.due("feel(" + no + ", 4, 0)", x.feel(no, 4, 0), NONE);
        }
        for (int no : Check.outside(1, 6)) {
            Check.due("feel(0, " + no + ", 0)", x.feel(0, no, 0), NONE);
            Check.due("feel(1, " + no + ", 0)", x.feel(1, no, 0), NONE);
        }
        for (int no : Check.outside(0, 99)) {
            Check.due("feel(0, 1, " + no + ")", x.feel(0, 1, no), NONE);
            Check.due("feel(1, 1, " + no + ")", x.feel(1, 1, no), NONE);
        }
    }

    private static void forget() {
        Check.by(35, "All that was TOLD is forgotten: how many there were.");
        HairRope x = Check.ropeOf(THREE, 0);
        Check.due("forget() of none", x.forget(), 0);
        x.tell(0, 99, true);
        Check.due("forget() of one", x.forget(), 1);
        Check.due("TOLD ones", x.count(10), 0);
        Check.due("rows(1, 1, 0)", x.rows(1, 1, 0), NONE);
        Check.due("rows(0, 1, 0)", x.rows(0, 1, 0), 3);
        Check.due("forget() of none", x.forget(), 0);
        for (int i = 0; i < 21; i++) {
            x.tell(i % 6, i, false);
        }
        Check.due("forget() of 20", x.forget(), 20);
        Check.due("numbered from 0 on", x.tell(1, 1, true), 0);
        Check.due("it is no thing done", x.count(9), 1);
        Check.due("forget() of a new one", new HairRope().forget(), 0);
    }
}
