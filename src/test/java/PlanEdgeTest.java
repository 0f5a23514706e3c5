/** The edges that the document names of what would be: the Terms' third part, promises 15 to 33. */
public final class PlanEdgeTest {
    private static final int NONE = HairRope.NONE;
    private static final int NOT = -2;
    private static final String THREE = "house a 10 50;house b 6 30;house c 4 20;";
    /** LONG 2 each; only f, e, d, c, b, a from the top bears 5, and none more of all six. */
    private static final String SIX = "house a 2 5;house b 2 7;house c 2 9;house d 2 11;house e 2 13;house f 2 15;joins=999;";
    private static final String ILL = "house a 20 50;house b 20 50;house c 20 50;blight 24;seed 7;";

    public static void main(String[] args) {
        mostGreatest();
        mostWithoutRope();
        mostBreaksWith0();
        weakestWithOneMore();
        weakestWith0();
        weakestWithoutRope();
        below();
        plannedRopes();
        plannedHair();
        plannedPlaits();
        plannedLaws();
        reaches();
        holds();
        orders();
        peak();
        fewestPlaits();
        fewestLowest();
        fewestNone();
        needed();
        soon();
        soonEdges();
        peace();
        peaceEdges();
        enough();
        water();
        rests();
        restsFirst();
        pivots();
        share();
        lasts();
        lastsEdges();
        harvest();
        harvestAsNow();
        harvestNone();
        swap();
        swapMore();
        quarrel();
        greyest();
        then();
        thenNone();
        year();
        yearNone();
        noneAheadOfNot();
        noBlight();
        nothingHappens();
        Check.end();
    }

    // ---- what the ROPE bears

    private static void mostGreatest() {
        Check.by(Check.TERMS, "MOST: the greatest w (0 .. 999) with which the ROPE BREAKS nowhere, be it LONG enough or not.");
        int[] strong = {1, 2, 50, 98, 99};
        for (int s : strong) {
            Check.due("most() of one PLAIT", Check.ropeOf("house a 9 " + s + ";well 99;", 0).most(), s);
            Check.due("most() of one PLAIT, LONG enough", Check.ropeOf("house a 9 " + s + ";well 9;", 0).most(), s);
        }
        HairRope x = Check.ropeOf(THREE + "joins=999;well 99;", 2, 1, 0);
        Check.due("most(): 20 with 16 below", x.most(), 4);
        x = Check.ropeOf(THREE + "joins=12;", 1, 2);
        Check.due("most(): a JOIN of 12 with 4 below", x.most(), 8);
        x.years(16);
        Check.due("most(): 4 STRONG by now", x.most(), 4);
        x.years(60);
        Check.due("most(): the upper one is 0 STRONG with 4 below", x.most(), NOT);
        x.unsplice();
        Check.due("most(): 0 STRONG, nothing below", x.most(), 0);
    }

    private static void mostWithoutRope() {
        Check.by(15, "MOST (no ROPE: 999)");
        Check.due("most() of a new one", new HairRope().most(), 999);
        HairRope x = Check.ropeOf(THREE);
        Check.due("most()", x.most(), 999);
        x.splice(0);
        Check.due("most() of a", x.most(), 50);
        x.unsplice();
        Check.due("most() of none", x.most(), 999);
    }

    private static void mostBreaksWith0() {
        Check.by(15, "-2: it BREAKS with 0.");
        int[][] ropes = {{10, 99, 0}, {9, 99, NOT}, {11, 99, 1}, {99, 10, 0}, {99, 9, NOT}, {99, 11, 1}, {99, 0, NOT}, {1, 0, NOT}, {10, 10, 0}};
        for (int[] r : ropes) {
            HairRope x = Check.ropeOf("house a 5 " + r[0] + ";house b 10 99;joins=" + r[1] + ";", 0, 1);
            Check.due("most() of STRONG " + r[0] + ", JOINS " + r[1] + ", 10 below", x.most(), r[2]);
        }
        Check.due("the lowest PLAIT of 1 STRONG", Check.ropeOf("house a 5 99;house b 10 1;joins=99;", 0, 1).most(), 1);
    }

    private static void weakestWithOneMore() {
        Check.by(Check.TERMS, "WEAKEST: where it BREAKS with 1 more (with 0, if it BREAKS so):"
            + " the place, that of the lower PLAIT of a JOIN; whether it is a JOIN.");
        Check.by(16, "WEAKEST: what 0 the place, 1: 1 a JOIN, 0 a PLAIT");
        // STRONG of a, b, c, the upper JOIN, the lower one: where, whether. All of them bear 20 more at 30, 24, 20, 30, 24.
        int[][] ropes = {{30, 24, 20, 30, 24, 0, 0}, {31, 24, 20, 30, 24, 1, 1}, {31, 24, 20, 31, 24, 1, 0}, {31, 25, 20, 31, 24, 2, 1},
            {31, 25, 20, 31, 25, 2, 0}, {29, 24, 20, 29, 24, 0, 0}, {31, 23, 20, 30, 24, 1, 0}, {30, 24, 20, 29, 24, 1, 1},
            {30, 24, 20, 30, 23, 2, 1}, {30, 24, 19, 30, 24, 2, 0}, {99, 99, 99, 99, 99, 0, 0}, {99, 99, 99, 999, 99, 0, 0}};
        for (int[] r : ropes) {
            HairRope x = threeOf(r);
            Check.due("weakest(0)", x.weakest(0), r[5]);
            Check.due("weakest(1)", x.weakest(1), r[6]);
        }
        // MOST is 0: it breaks with 1, not with 0.
        int[][] noughts = {{10, 5, 1, 11, 5, 0, 0}, {11, 5, 1, 10, 5, 1, 1}, {11, 4, 1, 11, 5, 1, 0}, {11, 5, 1, 11, 4, 2, 1}};
        for (int[] r : noughts) {
            HairRope x = threeOf(r);
            Check.due("most()", x.most(), 0);
            Check.due("weakest(0) of MOST 0", x.weakest(0), r[5]);
            Check.due("weakest(1) of MOST 0", x.weakest(1), r[6]);
        }
        HairRope x = Check.ropeOf("house a 9 99;", 0);
        Check.due("weakest(0) of one", x.weakest(0), 0);
        Check.due("weakest(1) of one", x.weakest(1), 0);
        x = Check.ropeOf(SIX, 5, 4, 3, 2, 1, 0);
        Check.due("weakest(0) of six alike ones", x.weakest(0), 0);
        x = Check.ropeOf(SIX.replace("a 2 5", "a 2 4"), 5, 4, 3, 2, 1, 0);
        Check.due("weakest(0) of six: the lowest", x.weakest(0), 5);
        Check.due("weakest(1) of six: a PLAIT", x.weakest(1), 0);
        x = Check.ropeOf(SIX.replace("joins=999", "joins=if which<2 then 6 else 999"), 5, 4, 3, 2, 1, 0);
        Check.due("weakest(0) of six: the lowest JOIN", x.weakest(0), 5);
        Check.due("weakest(1) of six: a JOIN", x.weakest(1), 1);
    }

    private static HairRope threeOf(int[] r) {
        return Check.ropeOf("house a 1 " + r[0] + ";house b 6 " + r[1] + ";house c 4 " + r[2] + ";joins=if which<1 then " + r[3]
            + " else " + r[4] + ";", 0, 1, 2);
    }

    private static void weakestWith0() {
        Check.by(Check.TERMS, "(with 0, if it BREAKS so)");
        // At 0 they bear 10, 4, 0 and the JOINS 10, 4.
        int[][] ropes = {{9, 4, 1, 10, 4, 0, 0}, {10, 4, 1, 9, 4, 1, 1}, {10, 3, 1, 10, 4, 1, 0}, {10, 4, 1, 10, 3, 2, 1},
            {10, 3, 1, 9, 3, 1, 1}, {9, 3, 1, 9, 3, 0, 0}, {10, 3, 1, 10, 3, 1, 0}, {10, 4, 1, 0, 0, 1, 1}, {10, 4, 1, 10, 0, 2, 1}};
        for (int[] r : ropes) {
            HairRope x = threeOf(r);
            Check.due("most()", x.most(), NOT);
            Check.due("weakest(0)", x.weakest(0), r[5]);
            Check.due("weakest(1)", x.weakest(1), r[6]);
        }
        // With 1 the JOIN above would break, too, and be higher.
        HairRope x = threeOf(new int[] {99, 3, 1, 10, 99});
        Check.due("weakest(0) with 0, not with 1", x.weakest(0), 1);
        Check.due("weakest(1) with 0, not with 1", x.weakest(1), 0);
    }

    private static void weakestWithoutRope() {
        Check.by(16, "-2: it BREAKS not with 1,000. NONE for others.");
        for (HairRope x : new HairRope[] {new HairRope(), Check.ropeOf(THREE)}) {
            Check.due("weakest(0)", x.weakest(0), NOT);
            Check.due("weakest(1)", x.weakest(1), NOT);
            for (int no : Check.outside(0, 1)) {
                Check.due("weakest(" + no + ") without ROPE", x.weakest(no), NONE);
            }
        }
        HairRope x = Check.ropeOf(THREE, 0, 1);
        for (int no : Check.outside(0, 1)) {
            Check.due("weakest(" + no + ")", x.weakest(no), NONE);
        }
    }

    private static void below() {
        Check.by(17, "LONG of all PLAITS below a place, added; NONE: no such place.");
        HairRope x = Check.ropeOf("house a 1 9;house b 2 9;house c 4 9;house d 8 9;house e 16 9;house f 20 9;", 0, 1, 2, 3, 4, 5);
        int[] want = {50, 48, 44, 36, 20, 0};
        for (int place = 0; place < 6; place++) {
            Check.due("below(" + place + ")", x.below(place), want[place]);
        }
        for (int no : Check.outside(0, 5)) {
            Check.due("below(" + no + ")", x.below(no), NONE);
        }
        x.unsplice();
        Check.due("below(5), unspliced", x.below(5), NONE);
        Check.due("below(4)", x.below(4), 0);
        for (int no : new int[] {0, -1, 1, Check.LEAST, Check.GREATEST}) {
            Check.due("below(" + no + ") without ROPE", new HairRope().below(no), NONE);
        }
    }

    // ---- PLANNED ROPES

    private static void plannedRopes() {
        Check.by(Check.TERMS, "A PLANNED ROPE: any HOUSES, unlike, one at least, in any order from the top");
        int[] want = {0, 1, 4, 15, 64, 325, 1956};
        StringBuilder text = new StringBuilder("joins=999;well 1;");
        for (int houses = 0; houses <= 6; houses++) {
            Check.due("orders(0) of " + houses + " HOUSES", Check.ropeOf(text.toString()).orders(0), want[houses]);
            text.append("house ").append((char) ('a' + houses)).append(" 2 99;");
        }
    }

    private static void plannedHair() {
        Check.by(Check.TERMS, "without one, with all its HAIR (1 or more) and STRONG as told at first");
        HairRope x = Check.ropeOf("house a 1 9;house b 0 99;house c 1 8;well 1;joins=99;");
        Check.due("orders(0): a, c, ac, ca", x.orders(0), 4);
        Check.due("peak()", x.peak(), 9);
        Check.due("orders(8): a, c, ac", x.orders(8), 3);
        Check.due("rests(0): a alone or c alone", x.rests(0), 2);
        Check.due("pivots()", x.pivots(), 0);
        x.splice(0);
        x.unsplice();
        Check.due("orders(0) once a has HAIR 0: c", x.orders(0), 1);
        Check.due("pivots() once a has HAIR 0", x.pivots(), 4);
        x.years(1);
        Check.due("orders(0) of HAIR 1, 1, 2", x.orders(0), 15);
    }

    private static void plannedPlaits() {
        Check.by(Check.TERMS, "each with its PLAIT or, without one, with all its HAIR");
        // a: a PLAIT of 10, 40 STRONG, HAIR 10 besides; b: HAIR 16, 30 STRONG.
        HairRope x = Check.ropeOf("house a 10 50;house b 6 30;well 11;joins=999;", 0);
        x.years(10);
        Check.due("orders(0): b, ab, ba; a is but 10 LONG", x.orders(0), 3);
        Check.due("peak(): b alone 30", x.peak(), 30);
        Check.due("orders(24): b; a upon b bears 40 with 16", x.orders(24), 2);
        Check.due("orders(25)", x.orders(25), 1);
        Check.due("ba: 30 with 10", x.orders(20), 3);
        Check.due("ba: 30 with 10", x.orders(21), 2);
        x.years(60);
        Check.due("a is 0 STRONG, b has HAIR 76: b, and none with a upon it", x.orders(0), 2);
        x = Check.ropeOf("house a 10 5;well 10;", 0);
        x.years(5);
        Check.due("a PLAIT of 0 STRONG, HAIR 5", x.orders(0), 1);
        Check.due("peak() of 0 STRONG", x.peak(), 0);
        x = Check.ropeOf("house a 10 5;well 10;grows=0;", 0);
        Check.due("a PLAIT, HAIR 0", x.orders(0), 1);
        Check.due("pivots(): a can give", x.pivots(), 1);
        Check.due("rests(0): none can be without a, who gave", x.rests(0), 1);
        Check.due("rests(1)", x.rests(1), 1);
    }

    private static void plannedLaws() {
        Check.by(Check.TERMS, "LAWS are asked of all as they are now, but strong and other as planned");
        String two = "house a 10 50;house b 6 30;house c 4 99;well 16;";
        // Of a upon b: JOINS bear 6 besides; of b upon a: 10.
        Check.due("by hair as it is now", Check.ropeOf(two + "joins=hair+3;").peak(), 7);
        HairRope x = Check.ropeOf(two + "joins=place*40+spliced*10+given*5+hair;", 2, 1);
        // b: place 1, given 1, HAIR 0; a: place 0, given 0, HAIR 10; both with 2 in the ROPE now: 65 and 30.
        Check.due("b upon a: 30 - 10; a upon b: 30 - 6", x.peak(), 24);
        x = Check.ropeOf(two + "joins=if other<strong then 26 else 0;");
        Check.due("strong and other as planned", x.peak(), 20);
        x.splice(0);
        x.years(21);
        // a is 29 STRONG by now, b 30 as told at first, LONG 27: b upon a.
        Check.due("strong of the PLAIT by now", x.fewest(0, NONE), 1);
        Check.due("b alone", x.fewest(0, 0), 1);
        Check.due("peak(): b alone", x.peak(), 99);
        x = Check.ropeOf("house a 10 50;house b 6 30;well 16;joins=year*10;");
        Check.due("by the year as it is now", x.peak(), NOT);
        x.years(2);
        Check.due("by the year as it is now", x.peak(), 12);
    }

    private static void reaches() {
        Check.by(Check.TERMS, "it REACHES if it is LONG as the WELL is deep or more");
        for (int well = 10; well <= 21; well++) {
            HairRope x = Check.ropeOf(THREE + "joins=999;well " + well + ";");
            // LONG 10 are a, bc and cb; 14 ac and ca; 16 ab and ba; 20 all six orders of three.
            int want = 0;
            want += well <= 10 ? 1 + 2 : 0;
            want += well <= 14 ? 2 : 0;
            want += well <= 16 ? 2 : 0;
            want += well <= 20 ? 6 : 0;
            Check.due("orders(0), WELL " + well, x.orders(0), want);
            Check.due("pivots(), WELL " + well, x.pivots(), pivots(well));
        }
    }

    /** Without a they have 10, without b 14, without c 16. */
    private static int pivots(int well) {
        return (10 < well ? 1 : 0) + (14 < well ? 2 : 0) + (16 < well ? 4 : 0);
    }

    private static void holds() {
        Check.by(Check.TERMS, "it HOLDS w if it REACHES and BREAKS nowhere at a haul of w");
        HairRope x = Check.ropeOf("house a 10 20;well 10;");
        Check.due("orders(20)", x.orders(20), 1);
        Check.due("orders(21)", x.orders(21), 0);
        x = Check.ropeOf("house a 10 20;house b 10 99;well 20;joins=99;");
        Check.due("a upon b: 20 with 10; b upon a: 20", x.orders(10), 2);
        Check.due("b upon a", x.orders(11), 1);
        Check.due("b upon a", x.orders(20), 1);
        Check.due("none", x.orders(21), 0);
        x = Check.ropeOf("house a 10 99;house b 10 99;well 20;joins=30;");
        Check.due("a JOIN of 30 with 10", x.orders(20), 2);
        Check.due("a JOIN of 30 with 10", x.orders(21), 0);
    }

    private static void orders() {
        Check.by(Check.TERMS, "ORDERS of w (0 .. 999): how many PLANNED ROPES HOLD it.");
        Check.by(18, "ORDERS; NONE: no such w.");
        HairRope x = Check.ropeOf("house a 8 60;house b 6 40;house c 5 20;likes a b 9;likes a c 7;likes b c 2;well 12;");
        // ab 40, ba 32, ac 20, ca 12, abc 15, acb 14, bac 20, bca 7, cab 6, cba 6.
        int[][] want = {{0, 10}, {6, 10}, {7, 8}, {8, 7}, {12, 7}, {13, 6}, {15, 5}, {16, 4}, {20, 4}, {21, 2}, {32, 2}, {33, 1}, {40, 1},
            {41, 0}, {998, 0}, {999, 0}};
        for (int[] w : want) {
            Check.due("orders(" + w[0] + ")", x.orders(w[0]), w[1]);
        }
        for (int no : Check.outside(0, 999)) {
            Check.due("orders(" + no + ")", x.orders(no), NONE);
            Check.due("orders(" + no + ") without HOUSES", new HairRope().orders(no), NONE);
        }
        Check.due("orders(0) without HOUSES", new HairRope().orders(0), 0);
    }

    private static void peak() {
        Check.by(Check.TERMS, "PEAK: the greatest w (0 .. 999) that any HOLDS.");
        Check.by(19, "PEAK; -2: none HOLDS 0.");
        Check.due("peak() of 99", Check.ropeOf("house a 9 99;well 9;").peak(), 99);
        Check.due("peak() of 1", Check.ropeOf("house a 9 1;well 9;").peak(), 1);
        Check.due("peak() of one that reaches not", Check.ropeOf("house a 8 99;well 9;").peak(), NOT);
        Check.due("peak() of 0", Check.ropeOf("house a 6 6;house b 6 9;well 12;joins=6;").peak(), 0);
        Check.due("peak(): a JOIN breaks with 0", Check.ropeOf("house a 6 6;house b 6 9;well 12;joins=5;").peak(), NOT);
        Check.due("peak(): PLAITS break with 0", Check.ropeOf("house a 6 5;house b 6 5;well 12;joins=9;").peak(), NOT);
        Check.due("peak() of six", Check.ropeOf(SIX + "well 12;").peak(), 5);
        Check.due("peak() without HOUSES", new HairRope().peak(), NOT);
        Check.due("peak() of HAIR 0", Check.ropeOf("house a 0 9;well 1;").peak(), NOT);
    }

    private static void fewestPlaits() {
        Check.by(Check.TERMS, "FEWEST of w: the fewest PLAITS of any that HOLDS it");
        Check.by(20, "FEWEST: how many (i NONE), else the HOUSE at a place");
        // The top one bears 0, 2, 4, 6, 8, 10 besides.
        int[] top = {0, 0, 0, 1, 2, 3};
        for (int plaits = 1; plaits <= 6; plaits++) {
            HairRope x = Check.ropeOf(SIX + "well " + 2 * plaits + ";");
            Check.due("fewest(0, NONE), WELL " + 2 * plaits, x.fewest(0, NONE), plaits);
            Check.due("fewest(0, 0), WELL " + 2 * plaits, x.fewest(0, 0), top[plaits - 1]);
        }
        HairRope x = Check.ropeOf(SIX + "well 12;");
        for (int place = 0; place < 6; place++) {
            Check.due("fewest(5, " + place + ")", x.fewest(5, place), 5 - place);
        }
        Check.due("fewest(5, NONE)", x.fewest(5, NONE), 6);
        // d alone is LONG enough, but not STRONG; then two; then three.
        x = Check.ropeOf("house a 8 60;house b 8 60;house c 8 60;house d 20 5;well 16;joins=if which+other<60 then 20 else 9;");
        Check.due("fewest(5, NONE)", x.fewest(5, NONE), 1);
        Check.due("fewest(5, 0)", x.fewest(5, 0), 3);
        Check.due("fewest(6, NONE)", x.fewest(6, NONE), NOT);
        Check.due("fewest(0, NONE)", x.fewest(0, NONE), 1);
    }

    private static void fewestLowest() {
        Check.by(Check.TERMS, "its HOUSES from the top, of as few the lowest at the top, then at the next place");
        String six = "house a 2 99;house b 2 99;house c 2 99;house d 2 99;house e 2 99;house f 2 99;";
        // Whom a JOIN bears above whom.
        fewest(Check.ropeOf(six + "well 6;joins=99;"), 0, 1, 2);
        fewest(Check.ropeOf(six + "well 6;joins=if which<1 then 0 else 99;"), 1, 2, 0);
        fewest(Check.ropeOf(six + "well 6;joins=if which<3 then 0 else 99;"), 3, 4, 0);
        fewest(Check.ropeOf(six + "well 12;joins=99;"), 0, 1, 2, 3, 4, 5);
        fewest(Check.ropeOf(six + "well 12;joins=if which<1 then 0 else 99;"), 1, 2, 3, 4, 5, 0);
        fewest(Check.ropeOf(six + "well 4;joins=if which<5 then 0 else 99;"), 5, 0);
        fewest(Check.ropeOf(six + "well 4;likes a b 0;likes a c 0;likes a e 0;likes a f 0;"), 0, 3);
        fewest(Check.ropeOf(six + "well 6;likes a b 0;likes b c 0;likes b d 0;likes b e 0;"), 0, 2, 3);
        fewest(Check.ropeOf(six + "well 2;"), 0);
    }

    private static void fewest(HairRope x, int... houses) {
        Check.due("fewest(0, NONE)", x.fewest(0, NONE), houses.length);
        for (int place = 0; place < houses.length; place++) {
            Check.due("fewest(0, " + place + ")", x.fewest(0, place), houses[place]);
        }
        Check.due("fewest(0, " + houses.length + ")", x.fewest(0, houses.length), NONE);
    }

    private static void fewestNone() {
        HairRope x = Check.ropeOf(THREE + "well 16;joins=99;");
        Check.by(20, "NONE: no such w, not so many.");
        for (int w : Check.outside(0, 999)) {
            for (int i : new int[] {NONE, 0, 1, 2, 6, Check.LEAST, Check.GREATEST}) {
                Check.due("fewest(" + w + ", " + i + ")", x.fewest(w, i), NONE);
                Check.due("fewest(" + w + ", " + i + ") without HOUSES", new HairRope().fewest(w, i), NONE);
            }
        }
        Check.due("fewest(0, NONE)", x.fewest(0, NONE), 2);
        Check.due("fewest(0, 1)", x.fewest(0, 1), 1);
        for (int i : new int[] {2, 3, 5, 6, -2, Check.LEAST, Check.GREATEST}) {
            Check.due("fewest(0, " + i + ")", x.fewest(0, i), NONE);
        }
        Check.by(20, "-2: none HOLDS it (i NONE or not)");
        for (int i : new int[] {NONE, 0, 1, 5}) {
            Check.due("fewest(999, " + i + ")", x.fewest(999, i), NOT);
            Check.due("fewest(0, " + i + ") without HOUSES", new HairRope().fewest(0, i), NOT);
        }
    }

    private static void needed() {
        Check.by(Check.TERMS, "NEEDED of w: HOUSES that are in all that HOLD it.");
        Check.by(21, "NEEDED (bits); -2: none HOLDS it; NONE: no such w.");
        HairRope x = Check.ropeOf(THREE + "joins=999;well 10;");
        Check.due("needed(0): a, or b with c", x.needed(0), 0);
        Check.due("needed(27): a, or a with others", x.needed(27), 1);
        Check.due("needed(50): a alone", x.needed(50), 1);
        Check.due("needed(51)", x.needed(51), NOT);
        Check.due("needed(999)", x.needed(999), NOT);
        Check.due("needed(0) of all six", Check.ropeOf(SIX + "well 12;").needed(0), 63);
        Check.due("needed(0) of f alone", Check.ropeOf("house a 0 9;house b 0 9;house c 0 9;house d 0 9;house e 0 9;house f 9 9;well 9;").needed(0), 32);
        for (int no : Check.outside(0, 999)) {
            Check.due("needed(" + no + ")", x.needed(no), NONE);
            Check.due("needed(" + no + ") without HOUSES", new HairRope().needed(no), NONE);
        }
        Check.due("needed(0) without HOUSES", new HairRope().needed(0), NOT);
    }

    private static void soon() {
        Check.by(Check.TERMS, "SOON of w: behind how many YEARS (0 .. 60) any HOLDS it first.");
        Check.by(22, "SOON; -2: not; NONE: no such w.");
        HairRope x = Check.ropeOf("house a 8 60;house b 6 40;well 14;joins=999;");
        Check.due("soon(34): b upon a bears 32, a upon b 40", x.soon(34), 0);
        Check.due("soon(40)", x.soon(40), 0);
        Check.due("soon(41): a alone, of HAIR 14", x.soon(41), 6);
        Check.due("soon(60)", x.soon(60), 6);
        Check.due("soon(61)", x.soon(61), NOT);
        Check.due("soon(999)", x.soon(999), NOT);
        for (int no : Check.outside(0, 999)) {
            Check.due("soon(" + no + ")", x.soon(no), NONE);
        }
        // Only in the year 3 does the JOIN bear it.
        x = Check.ropeOf("house a 8 60;house b 6 40;well 14;grows=0;joins=if year<3 then 0 else if year<4 then 99 else 0;");
        Check.due("soon(0) in the year 3", x.soon(0), 3);
        x.years(3);
        Check.due("soon(0) now", x.soon(0), 0);
        x.years(1);
        Check.due("soon(0) no more", x.soon(0), NOT);
    }

    private static void soonEdges() {
        Check.by(Check.TERMS, "(0 .. 60) any HOLDS it first");
        Check.due("soon(0) in 60 YEARS", Check.ropeOf("house a 1 9;well 61;").soon(0), 60);
        Check.due("soon(0) in 61 YEARS", Check.ropeOf("house a 1 9;well 62;").soon(0), NOT);
        Check.due("soon(0) in 59 YEARS", Check.ropeOf("house a 1 9;well 60;").soon(0), 59);
        Check.due("soon(0) in 1 YEAR", Check.ropeOf("house a 1 9;well 2;").soon(0), 1);
        Check.due("soon(0) of HAIR 99 at most", Check.ropeOf("house a 1 9;well 99;grows=7;").soon(0), 14);
        Check.due("soon(0) of GROWS 0", Check.ropeOf("house a 1 9;well 2;grows=0;").soon(0), NOT);
        Check.due("soon(0) without HOUSES", new HairRope().soon(0), NOT);
        HairRope x = Check.ropeOf("house a 5 60;house b 1 60;well 6;joins=999;weakens=20;", 0);
        // b grows to 6 in 5 YEARS and holds 60 alone; ahead of that a, which weakens, would be needed, too.
        Check.due("soon(50): ba, ab break by LONG", x.soon(50), 0);
        Check.due("soon(56): a is 60, b 1 below", x.soon(56), 0);
        Check.due("soon(60): b alone, at last", x.soon(60), 5);
    }

    private static void peace() {
        Check.by(Check.TERMS, "PEACE of w: how few (0 .. 2) two HOUSES each must have LIKES of 9, so that any HOLDS it;"
            + " the first two (10 * the lesser + the other; of as few the lowest first, then the next ones).");
        Check.by(23, "PEACE: what 0 how few, 1 the first two, 2 the next two (-1: so many are not); -2: not by two");
        String four = "house a 5 99;house b 5 99;house c 5 99;house d 5 99;joins=like*3;";
        String foes = "likes a b 0;likes a c 0;likes a d 0;likes b c 0;likes b d 0;likes c d 0;";
        // Two of them: a JOIN of 27 bears 5 and 22 more.
        peace(four + "well 10;", 10, 0, -1, -1);
        // Just one rope holds it, and nobody needs to be made up.
        peace("house a 10 50;well 10;", 50, 0, -1, -1);
        peace("house a 10 50;well 10;", 51, NOT, NOT, NOT);
        peace("house a 10 50;house b 9 60;well 19;joins=99;likes a b 0;", 50, 0, -1, -1);
        peace(four + "well 10;", 11, 1, 1, -1);
        peace(four + "well 10;", 22, 1, 1, -1);
        peace(four + "well 10;", 23, NOT, NOT, NOT);
        // Three: the upper JOIN bears 10 besides, the lower one 5.
        peace(four + foes + "well 15;", 17, 2, 1, 2);
        peace(four + foes + "well 15;", 18, NOT, NOT, NOT);
        peace(four + foes + "well 20;", 0, NOT, NOT, NOT);
        // Of two that are made up already none needs to be made up.
        peace(four + foes + "likes c d 9;well 15;", 17, 1, 2, -1);
        peace(four + foes + "likes c d 9;likes b d 9;well 15;", 17, 0, -1, -1);
        peace(four + foes + "likes c d 9;well 20;", 0, 2, 1, 2);
        peace(four + foes + "likes a b 9;likes c d 9;well 20;", 12, 1, 2, -1);
    }

    private static void peace(String text, int w, int few, int first, int next) {
        HairRope x = Check.ropeOf(text);
        Check.due("peace(" + w + ", 0) of " + text, x.peace(w, 0), few);
        Check.due("peace(" + w + ", 1) of " + text, x.peace(w, 1), first);
        Check.due("peace(" + w + ", 2) of " + text, x.peace(w, 2), next);
    }

    private static void peaceEdges() {
        Check.by(Check.TERMS, "(10 * the lesser + the other; of as few the lowest first, then the next ones)");
        String none = "house a 0 9;house b 0 9;house c 0 9;house d 0 9;";
        peace(none + "house e 10 99;house f 10 99;well 20;likes f e 0;", 0, 1, 45, -1);
        peace(none + "house e 10 99;house f 10 99;well 20;likes f e 0;", 80, 1, 45, -1);
        peace(none + "house e 10 99;house f 10 99;well 20;likes f e 0;", 81, NOT, NOT, NOT);
        peace(none + "house e 10 99;house f 10 99;well 20;likes f e 1;", 0, 0, -1, -1);
        peace("house a 0 9;house b 0 9;house c 0 9;house d 10 99;house e 10 99;house f 10 99;well 30;likes d e 0;likes d f 0;likes e f 0;", 70, 2, 34, 35);
        peace("house a 0 9;house b 0 9;house c 0 9;house d 10 70;house e 10 99;house f 10 99;well 30;likes d e 0;likes d f 0;likes e f 0;", 70, 2, 34, 45);
        peace("house a 0 9;house b 0 9;house c 0 9;house d 10 99;house e 10 70;house f 10 99;well 30;likes d e 0;likes d f 0;likes e f 0;", 70, 2, 34, 35);
        peace("house a 0 9;house b 0 9;house c 0 9;house d 10 80;house e 10 80;house f 10 90;well 30;likes d e 0;likes d f 0;likes e f 0;", 70, 2, 34, 35);
        // LIKES of 9 may do harm, too: nothing can be under a then. At 6 the upper JOIN must bear more than 25: b upon a upon c.
        String harm = "house a 10 99;house b 10 99;house c 10 99;well 30;joins=if like<9 then 25 else if which<1 then 0 else 99;";
        peace(harm, 5, 0, -1, -1);
        peace(harm, 6, 1, 1, -1);
        peace(harm + "likes a b 9;likes a c 9;likes b c 9;", 6, 0, -1, -1);
        peace("house a 10 99;house b 10 99;well 20;joins=10-like;likes a b 1;", 0, NOT, NOT, NOT);
        Check.by(23, "NONE: no such ones.");
        for (HairRope x : new HairRope[] {new HairRope(), Check.ropeOf(THREE + "well 10;"), Check.ropeOf(THREE + "well 99;")}) {
            for (int no : Check.outside(0, 999)) {
                for (int what = -1; what <= 3; what++) {
                    Check.due("peace(" + no + ", " + what + ")", x.peace(no, what), NONE);
                }
            }
            for (int no : Check.outside(0, 2)) {
                Check.due("peace(0, " + no + ")", x.peace(0, no), NONE);
                Check.due("peace(999, " + no + ")", x.peace(999, no), NONE);
            }
            Check.due("peace(999, 0)", x.peace(999, 0), NOT);
        }
        Check.by(Check.TERMS, "so that any HOLDS it");
        HairRope x = Check.ropeOf(none + "house e 10 99;house f 10 99;well 20;likes f e 0;");
        x.peace(0, 0);
        Check.due("LIKES stay", x.likes(4, 5), 0);
        Check.due("JOINS stay", x.joins(4, 5), 0);
        Check.due("orders(0)", x.orders(0), 0);
    }

    // ---- GIVING

    private static void enough() {
        Check.by(Check.TERMS, "GIVING: a set of HOUSES, each with a PLAIT or HAIR of 1 or more;"
            + " it is ENOUGH if what they have, added, is as the WELL is deep or more.");
        // With COSTS of 0 all GIVINGS that are ENOUGH with one to spare are RESTS, and so are those too far from it.
        Check.due("WELL of 10: a", Check.ropeOf("house a 10 50;well 10;water 11;").rests(1), 1);
        Check.due("WELL of 11: none", Check.ropeOf("house a 10 50;well 11;water 99;").rests(1), 0);
        Check.due("HAIR 1", Check.ropeOf("house a 1 50;well 1;").rests(1), 1);
        HairRope x = Check.ropeOf("house a 0 50;well 1;");
        Check.due("HAIR 0: rests(0)", x.rests(0), 1);
        Check.due("HAIR 0: rests(1)", x.rests(1), 0);
        // What one with a PLAIT has is the PLAIT, not HAIR that has grown since.
        x = Check.ropeOf("house a 10 50;well 12;", 0);
        x.years(9);
        Check.due("a PLAIT of 10, HAIR 9: pivots()", x.pivots(), 1);
        Check.due("a PLAIT of 10, HAIR 9: rests(1)", x.rests(1), 0);
        x = Check.ropeOf("house a 10 50;well 10;", 0);
        x.years(9);
        Check.due("a PLAIT of 10: rests(1)", x.rests(1), 1);
    }

    private static void water() {
        Check.by(Check.TERMS, "Each HOUSE has WATER if it is ENOUGH, less COSTS if it is in the set (COSTS of one with a PLAIT: 0).");
        // One HOUSE that can reach alone: it gives if the WATER is worth more than it costs; at just as much both are RESTS.
        int[][] ones = {{9, 2, 1, 1}, {8, 8, 2, 0}, {7, 8, 1, 0}, {0, 0, 2, 0}, {1, 0, 1, 1}, {0, 1, 1, 0}, {99, 98, 1, 1}, {99, 99, 2, 0}};
        for (int[] o : ones) {
            HairRope x = Check.ropeOf("house a 8 50;well 8;water " + o[0] + ";costs=" + o[1] + ";");
            Check.due("rests(0), WATER " + o[0] + ", COSTS " + o[1], x.rests(0), o[2]);
            Check.due("rests(1), WATER " + o[0] + ", COSTS " + o[1], x.rests(1), o[3]);
        }
        HairRope x = Check.ropeOf("house a 8 50;well 8;water 1;costs=50;", 0);
        Check.due("rests(0) with a PLAIT", x.rests(0), 1);
        Check.due("rests(1) with a PLAIT", x.rests(1), 1);
        Check.due("house(0, 7)", x.house(0, 7), 50);
        x.unsplice();
        x.years(9);
        Check.due("rests(1) without it", x.rests(1), 0);
    }

    private static void rests() {
        Check.by(Check.TERMS, "A REST: a GIVING in which no HOUSE alone would have more by giving, if it can, or by not giving.");
        Check.by(24, "RESTS: what 0 how many, 1 the first (bits; -2: none). NONE for others.");
        // Two of three reach: each two of them are a REST, and none at all.
        HairRope x = Check.ropeOf("house a 8 60;house b 8 40;house c 8 20;well 16;costs=3;");
        Check.due("rests(0)", x.rests(0), 4);
        Check.due("rests(1)", x.rests(1), 0);
        // Giving together might be more; but no HOUSE alone.
        x = Check.ropeOf("house a 8 60;house b 8 40;well 16;water 99;costs=1;");
        Check.due("rests(0): none or both", x.rests(0), 2);
        // At COSTS of 0 who gives besides has no less.
        x = Check.ropeOf("house a 8 60;house b 8 40;house c 8 20;well 16;costs=0;");
        Check.due("rests(0): one of them alone is none", x.rests(0), 5);
        x = Check.ropeOf("house a 8 60;house b 8 40;house c 0 20;well 8;costs=0;");
        Check.due("rests(0): c can not give", x.rests(0), 3);
        Check.due("rests(0) without HOUSES", new HairRope().rests(0), 1);
        Check.due("rests(1) without HOUSES", new HairRope().rests(1), 0);
        for (int no : Check.outside(0, 1)) {
            Check.due("rests(" + no + ")", x.rests(no), NONE);
            Check.due("rests(" + no + ") without HOUSES", new HairRope().rests(no), NONE);
        }
        // All 64 GIVINGS of six that cost nothing and are never ENOUGH.
        x = Check.ropeOf(SIX + "well 13;costs=0;");
        Check.due("rests(0) of six", x.rests(0), 64);
        Check.due("rests(1) of six", x.rests(1), 0);
        x = Check.ropeOf(SIX + "well 12;costs=0;");
        Check.due("rests(0) of six that all must give", x.rests(0), 64 - 6);
        x = Check.ropeOf(SIX + "well 13;costs=1;");
        Check.due("rests(0) of six that have nothing from it", x.rests(0), 1);
    }

    private static void restsFirst() {
        Check.by(Check.TERMS, "RESTS: how many; the first with fewest HOUSES, of as many the least bits.");
        String[] texts = {"house a 5 9;house b 5 9;house c 5 9;well 5;costs=1;", "house a 5 9;house b 5 9;house c 5 9;well 5;costs=11-which*5;",
            "house a 5 9;house b 11 9;house c 6 9;well 11;costs=1;", "house a 3 9;house b 5 9;house c 8 9;well 8;costs=if which<2 then 1 else 20;",
            "house a 5 9;house b 3 9;house c 2 9;house d 6 9;house e 4 9;house f 10 9;well 10;costs=1;"};
        int[] first = {1, 2, 2, 0, 32};
        int[] many = {3, 2, 2, 2, 0};
        for (int i = 0; i < texts.length; i++) {
            HairRope x = Check.ropeOf(texts[i]);
            Check.due("rests(1) of " + texts[i], x.rests(1), first[i]);
            if (many[i] > 0) {
                Check.due("rests(0) of " + texts[i], x.rests(0), many[i]);
            }
        }
    }

    private static void pivots() {
        Check.by(Check.TERMS, "PIVOTS: HOUSES without which all others who can give are not ENOUGH.");
        Check.by(25, "PIVOTS (bits).");
        String text = "house a 8 60;house b 6 40;house c 5 20;house d 0 9;";
        int[][] want = {{11, 0}, {12, 1}, {13, 1}, {14, 3}, {15, 7}, {19, 7}, {20, 15}, {99, 15}};
        for (int[] w : want) {
            Check.due("pivots(), WELL " + w[0], Check.ropeOf(text + "well " + w[0] + ";").pivots(), w[1]);
        }
        Check.due("pivots() without HOUSES", new HairRope().pivots(), 0);
        Check.due("pivots() of one", Check.ropeOf("house a 9 9;well 1;").pivots(), 1);
        Check.due("pivots() of six", Check.ropeOf(SIX + "well 12;").pivots(), 63);
        Check.due("pivots() of six, one to spare", Check.ropeOf(SIX + "well 10;").pivots(), 0);
        Check.due("pivots() of six, never ENOUGH", Check.ropeOf(SIX + "well 13;").pivots(), 63);
    }

    private static void share() {
        Check.by(Check.TERMS, "SHARE of a HOUSE: what of LONG of all PLAITS in the ROPE is its own, by 1,000, rounded down.");
        Check.by(26, "SHARE (without PLAIT: 0); NONE: no such HOUSE.");
        HairRope x = Check.ropeOf("house a 1 9;house b 2 9;house c 4 9;house d 0 9;");
        Check.due("share(0) without ROPE", x.share(0), 0);
        x.splice(0);
        Check.due("share(0) of all", x.share(0), 1000);
        Check.due("share(1) without PLAIT", x.share(1), 0);
        x.splice(1);
        Check.due("share(0) of 3", x.share(0), 333);
        Check.due("share(1) of 3", x.share(1), 666);
        x.splice(2);
        int[] want = {142, 285, 571, 0};
        for (int house = 0; house < 4; house++) {
            Check.due("share(" + house + ") of 7", x.share(house), want[house]);
        }
        for (int no : Check.outside(0, 3)) {
            Check.due("share(" + no + ")", x.share(no), NONE);
            Check.due("share(" + no + ") of none", new HairRope().share(no), NONE);
        }
        Check.due("share(0) of none", new HairRope().share(0), NONE);
        x = Check.ropeOf("house a 1 9;", 0);
        Check.due("share(0) of a ROPE 1 LONG", x.share(0), 1000);
        x.years(5);
        Check.due("HAIR is no part of it", x.share(0), 1000);
        x = Check.ropeOf("house a 1 9;house b 20 9;house c 20 9;house d 20 9;grows=99;");
        x.splice(0);
        x.years(1);
        x.splice(1);
        x.splice(2);
        x.splice(3);
        Check.due("share(0) of 298", x.share(0), 3);
        Check.due("share(1) of 298", x.share(1), 332);
    }

    // ---- YEARS that would be

    private static void lasts() {
        Check.by(Check.TERMS, "LASTS with w: behind how many YEARS (0 .. 60) the ROPE as it is BREAKS first at a haul of w, be it LONG enough or not.");
        Check.by(27, "LASTS; -2: not (no ROPE: not); NONE: no such w.");
        for (int well : new int[] {9, 99}) {
            HairRope x = Check.ropeOf("house a 9 99;well " + well + ";", 0);
            Check.due("lasts(100)", x.lasts(100), 0);
            Check.due("lasts(99)", x.lasts(99), 1);
            Check.due("lasts(40)", x.lasts(40), 60);
            Check.due("lasts(39)", x.lasts(39), NOT);
            Check.due("lasts(0)", x.lasts(0), NOT);
            Check.due("lasts(999)", x.lasts(999), 0);
            for (int no : Check.outside(0, 999)) {
                Check.due("lasts(" + no + ")", x.lasts(no), NONE);
            }
        }
        HairRope x = Check.ropeOf(THREE);
        for (int w : new int[] {0, 1, 999}) {
            Check.due("lasts(" + w + ") without ROPE", x.lasts(w), NOT);
        }
        for (int no : Check.outside(0, 999)) {
            Check.due("lasts(" + no + ") without ROPE", x.lasts(no), NONE);
        }
    }

    private static void lastsEdges() {
        Check.by(Check.TERMS, "the ROPE as it is BREAKS first");
        // It would hold again later; the first year counts.
        HairRope x = Check.ropeOf("house a 8 99;house b 6 99;weakens=0;joins=if year<3 then 50 else if year<4 then 40 else 99;", 0, 1);
        Check.due("lasts(40)", x.lasts(40), 3);
        Check.due("lasts(34)", x.lasts(34), NOT);
        Check.due("lasts(35)", x.lasts(35), 3);
        Check.due("lasts(45)", x.lasts(45), 0);
        x.years(3);
        Check.due("lasts(40) now", x.lasts(40), 0);
        x.years(1);
        Check.due("lasts(40) later", x.lasts(40), NOT);
        // The ROPE as it is: what HOUSES grow is not spliced, but LAWS may look at it.
        x = Check.ropeOf("house a 8 99;house b 6 99;weakens=0;joins=50-hair;", 0, 1);
        Check.due("lasts(40): 6 below, HAIR of 5", x.lasts(40), 5);
        // Not even the one YEAR in which a LOT of SEED 0 is 0 is one of BLIGHT.
        x = Check.ropeOf("house a 8 99;house b 6 99;weakens=0;joins=60-hair;", 0, 1);
        Check.due("lasts(35): 6 below, HAIR of 20", x.lasts(35), 20);
        x = Check.ropeOf("house a 8 30;house b 6 30;joins=999;weakens=place*2+1;", 0, 1);
        Check.due("lasts(20): a by 1 a YEAR, with 6 below; b by 3", x.lasts(20), 4);
        Check.due("lasts(0): a in 25, b in 31 at least", x.lasts(0), 25);
    }

    private static void harvest(String text, int n, int step, int sum) {
        HairRope x = Check.ropeOf(text);
        Check.due("harvest(0, " + n + ", 0) of " + text, x.harvest(0, n, 0), step);
        Check.due("harvest(0, " + n + ", 1) of " + text, x.harvest(0, n, 1), sum);
    }

    private static void harvest() {
        Check.by(Check.TERMS, "HARVEST of a HOUSE in n (1 .. 60) YEARS: it gives all its HAIR behind each g YEARS, g 1 .. n, again and again,"
            + " and what it has behind n, too (given, spliced as now): the g by which all this, added, is most, of alike ones the least; how much.");
        Check.by(28, "HARVEST: what 0 which g, 1 how much");
        String doubles = "house a 3 9;grows=hair;";
        harvest(doubles, 1, 1, 6);
        harvest(doubles, 2, 2, 12);
        harvest(doubles, 4, 4, 48);
        harvest(doubles, 5, 5, 96);
        harvest(doubles, 6, 6, 99);
        harvest(doubles, 7, 6, 99);
        harvest(doubles, 60, 6, 99);
        harvest("house a 8 9;", 1, 1, 9);
        harvest("house a 8 9;", 60, 1, 68);
        harvest("house a 20 9;grows=60;", 3, 1, 200);
        harvest("house a 0 9;grows=0;", 60, 1, 0);
        harvest("house a 20 9;grows=99;", 60, 1, 99 * 60);
        // By twos 3 and 3 and so on: 1 first, then 2 more; by ones 1 each; all at once 3 at most.
        String threes = "house a 0 9;grows=if hair<1 then 1 else if hair<2 then 2 else 0;";
        harvest(threes, 2, 2, 3);
        harvest(threes, 3, 2, 4);
        harvest(threes, 4, 2, 6);
        harvest(threes, 5, 2, 7);
        harvest(threes, 59, 2, 29 * 3 + 1);
        harvest(threes, 60, 2, 90);
        // HAIR that is there from the first on; the YEARS go on behind each giving.
        harvest("house a 9 9;grows=if year<1 then 0 else if year<2 then 5 else 0;", 2, 1, 14);
        harvest("house a 9 9;grows=if hair<10 then year else 0;", 3, 1, 12);
    }

    private static void harvestAsNow() {
        Check.by(Check.TERMS, "(given, spliced as now)");
        HairRope x = Check.ropeOf("house a 8 9;house b 3 9;grows=given*10+spliced+1;", 0, 1);
        x.unsplice();
        Check.due("harvest(0, 3, 1): given once, 1 in the ROPE", x.harvest(0, 3, 1), 36);
        Check.due("harvest(1, 3, 1): given once, 1 in the ROPE", x.harvest(1, 3, 1), 36);
        Check.due("house(0, 8)", x.house(0, 8), 1);
        Check.due("count(3)", x.count(3), 1);
        x = Check.ropeOf("house a 8 9;grows=given*10+spliced+1;");
        Check.due("harvest(0, 3, 1): never given, none in the ROPE", x.harvest(0, 3, 1), 11);
        x = Check.ropeOf("house a 8 50;house b 1 9;grows=place*10+1;", 1, 0);
        Check.due("harvest(0, 2, 1): at place 1", x.harvest(0, 2, 1), 22);
    }

    private static void harvestNone() {
        Check.by(28, "NONE: no such ones.");
        HairRope x = Check.ropeOf(THREE);
        for (int no : Check.outside(0, 2)) {
            Check.due("harvest(" + no + ", 1, 0)", x.harvest(no, 1, 0), NONE);
        }
        for (int no : Check.outside(1, 60)) {
            Check.due("harvest(0, " + no + ", 0)", x.harvest(0, no, 0), NONE);
            Check.due("harvest(0, " + no + ", 1)", x.harvest(0, no, 1), NONE);
        }
        for (int no : Check.outside(0, 1)) {
            Check.due("harvest(0, 1, " + no + ")", x.harvest(0, 1, no), NONE);
        }
        Check.due("harvest(0, 1, 0) without HOUSES", new HairRope().harvest(0, 1, 0), NONE);
        Check.due("harvest(2, 60, 0)", x.harvest(2, 60, 0), 1);
    }

    private static void swap(String text, int want) {
        HairRope x = Check.ropeOf("well 99;" + text);
        int houses = x.count(0);
        for (int house = 0; house < houses; house++) {
            x.splice(house);
        }
        Check.due("swap() of " + text, x.swap(), want);
    }

    private static void swap() {
        Check.by(Check.TERMS, "SWAP: the two places of the ROPE whose PLAITS, changed about (for LAWS each is at the place where it then would be),"
            + " make MOST greatest, more than now, of alike ones the first (10 * the higher + the other).");
        Check.by(29, "SWAP; -2: none.");
        swap("", NOT);
        swap("house a 9 9;", NOT);
        swap("house a 10 20;house b 5 90;joins=99;", 1);
        swap("house a 5 90;house b 10 20;joins=99;", NOT);
        swap("house a 5 50;house b 5 50;joins=99;", NOT);
        // e bears 3 alone: it must be the lowest.
        String six = "house a 1 99;house b 1 99;house c 1 99;house d 1 99;house e 1 3;house f 2 99;joins=999;";
        swap(six, 45);
        swap("house a 1 3;house b 1 99;house c 1 99;house d 1 99;house e 1 99;house f 2 99;joins=999;", 5);
        swap("house a 1 99;house b 1 99;house c 1 3;house d 1 99;house e 1 99;house f 2 99;joins=999;", 25);
        // Each of 01, 02 makes 5 of 4; the first is told.
        swap("house a 5 10;house b 1 99;house c 5 11;joins=999;", 1);
        // 01 would make it 6, 02 makes it 10.
        swap("house a 5 10;house b 5 11;house c 1 99;joins=999;", 2);
        // By LAWS: a JOIN by the place where the upper one then would be.
        swap("house a 5 99;house b 5 99;joins=if place<1 then which*10+10 else 1;", 1);
        swap("house a 5 99;house b 5 99;joins=(1-place)*(10-which);", NOT);
        swap("house a 5 99;house b 5 99;house c 5 99;joins=if which<1 then 20+place*10 else 99;", 2);
        swap("house a 5 99;house b 5 99;house c 5 99;joins=if place*2<which then 20 else 60-which;", NOT);
    }

    private static void swapMore() {
        Check.by(Check.TERMS, "more than now");
        swap("house a 10 30;house b 1 30;house c 1 30;joins=99;", NOT);
        swap("house a 1 30;house b 1 30;house c 10 30;joins=99;", 2);
        swap("house a 1 11;house b 1 20;joins=10;", NOT);
        swap("house a 1 11;house b 2 20;joins=12;", 1);
        // It breaks with 0 as it is.
        swap("house a 10 3;house b 5 90;joins=99;", 1);
        swap("house a 10 9;house b 10 10;joins=99;", 1);
        swap("house a 10 9;house b 10 9;joins=99;", NOT);
        swap("house a 10 9;house b 9 8;joins=9;", NOT);
        swap("house a 9 8;house b 10 9;joins=9;", 1);
        HairRope x = Check.ropeOf("house a 10 20;house b 5 90;joins=99;", 0, 1);
        Check.due("swap()", x.swap(), 1);
        Check.due("at(0) stays", x.at(0), 0);
        Check.due("at(1) stays", x.at(1), 1);
        Check.due("most() stays", x.most(), 15);
    }

    private static void quarrel() {
        Check.by(Check.TERMS, "QUARREL: the place of the lower of two PLAITS, one upon the other, whose JOINS are least, of alike ones the highest; how much.");
        Check.by(30, "QUARREL: what 0 the place, 1 how much; -2: there are not two PLAITS. NONE for others.");
        HairRope x = Check.ropeOf(THREE + "likes a b 3;likes b c 3;likes a c 0;");
        for (int plaits = 0; plaits < 2; plaits++) {
            Check.due("quarrel(0) of " + plaits, x.quarrel(0), NOT);
            Check.due("quarrel(1) of " + plaits, x.quarrel(1), NOT);
            for (int no : Check.outside(0, 1)) {
                Check.due("quarrel(" + no + ") of " + plaits, x.quarrel(no), NONE);
            }
            x.splice(plaits);
        }
        Check.due("quarrel(0) of 2", x.quarrel(0), 1);
        Check.due("quarrel(1) of 2", x.quarrel(1), 30);
        x.splice(2);
        Check.due("quarrel(0) of alike ones", x.quarrel(0), 1);
        Check.due("quarrel(1): a is not upon c", x.quarrel(1), 30);
        for (int no : Check.outside(0, 1)) {
            Check.due("quarrel(" + no + ")", x.quarrel(no), NONE);
        }
        x = Check.ropeOf(SIX.replace("joins=999", "joins=if which<2 then 0 else if which<4 then 5 else 7"), 5, 4, 3, 2, 1, 0);
        Check.due("quarrel(0) of six", x.quarrel(0), 5);
        Check.due("quarrel(1) of six", x.quarrel(1), 0);
        x.unsplice();
        Check.due("quarrel(0) of five", x.quarrel(0), 3);
        Check.due("quarrel(1) of five", x.quarrel(1), 5);
    }

    private static void greyest() {
        Check.by(Check.TERMS, "GREYEST: the place of the PLAIT that is least STRONG, of alike ones the highest; how much.");
        Check.by(31, "GREYEST: what 0 the place, 1 how much; -2: no ROPE. NONE for others.");
        HairRope x = Check.ropeOf("house a 9 30;house b 9 20;house c 9 20;house d 9 1;");
        for (int no : Check.outside(0, 1)) {
            Check.due("greyest(" + no + ") without ROPE", x.greyest(no), NONE);
        }
        Check.due("greyest(0) without ROPE", x.greyest(0), NOT);
        Check.due("greyest(1) without ROPE", x.greyest(1), NOT);
        int[][] want = {{0, 30}, {1, 20}, {1, 20}, {3, 1}};
        for (int house = 0; house < 4; house++) {
            x.splice(house);
            Check.due("greyest(0)", x.greyest(0), want[house][0]);
            Check.due("greyest(1)", x.greyest(1), want[house][1]);
        }
        x.years(1);
        Check.due("greyest(1) of 0", x.greyest(1), 0);
        Check.due("greyest(0) of 0", x.greyest(0), 3);
        x.years(40);
        Check.due("greyest(0) of all 0", x.greyest(0), 0);
        for (int no : Check.outside(0, 1)) {
            Check.due("greyest(" + no + ")", x.greyest(no), NONE);
        }
    }

    private static void then() {
        Check.by(Check.TERMS, "IN n YEARS (0 .. 60): the HAIR of a HOUSE; how STRONG its PLAIT is.");
        Check.by(32, "IN n YEARS: what 0 HAIR, 1 how STRONG its PLAIT is (without: 0)");
        HairRope x = Check.ropeOf(ILL);
        int[][] hair = {{20, 10, 5, 6}, {20, 21, 22, 23}, {20, 21, 10, 11}};
        for (int house = 0; house < 3; house++) {
            for (int n = 0; n <= 3; n++) {
                Check.due("then(" + house + ", " + n + ", 0)", x.then(house, n, 0), hair[house][n]);
                Check.due("then(" + house + ", " + n + ", 1) without", x.then(house, n, 1), 0);
            }
        }
        x = Check.ropeOf("house a 0 99;house b 5 60;weakens=2-which;", 0, 1);
        Check.due("then(0, 60, 0)", x.then(0, 60, 0), 60);
        Check.due("then(0, 60, 1) of none", x.then(0, 60, 1), 0);
        Check.due("then(1, 0, 1)", x.then(1, 0, 1), 60);
        Check.due("then(1, 59, 1)", x.then(1, 59, 1), 1);
        Check.due("then(1, 60, 1)", x.then(1, 60, 1), 0);
        // It is as YEARS then are.
        x = Check.ropeOf(ILL + "grows=if hair<12 then 5 else 2;weakens=hair/4;", 1, 2);
        HairRope y = Check.ropeOf(ILL + "grows=if hair<12 then 5 else 2;weakens=hair/4;", 1, 2);
        for (int n = 1; n <= 60; n++) {
            y.years(1);
            for (int house = 0; house < 3; house++) {
                Check.due("then(" + house + ", " + n + ", 0)", x.then(house, n, 0), y.house(house, 0));
                Check.due("then(" + house + ", " + n + ", 1)", x.then(house, n, 1), y.house(house, 4));
            }
            if (n == 30) {
                x = Check.ropeOf(ILL + "grows=if hair<12 then 5 else 2;weakens=hair/4;", 1, 2);
            }
        }
    }

    private static void thenNone() {
        Check.by(32, "NONE: no such ones.");
        HairRope x = Check.ropeOf(ILL, 0);
        for (int no : Check.outside(0, 2)) {
            Check.due("then(" + no + ", 1, 0)", x.then(no, 1, 0), NONE);
            Check.due("then(" + no + ", 1, 1)", x.then(no, 1, 1), NONE);
        }
        for (int no : Check.outside(0, 60)) {
            Check.due("then(0, " + no + ", 0)", x.then(0, no, 0), NONE);
            Check.due("then(0, " + no + ", 1)", x.then(0, no, 1), NONE);
        }
        for (int no : Check.outside(0, 1)) {
            Check.due("then(0, 1, " + no + ")", x.then(0, 1, no), NONE);
        }
        Check.due("then(0, 0, 0) without HOUSES", new HairRope().then(0, 0, 0), NONE);
    }

    /** LOT 100 of a SEED and a which, in long ints that do not wrap. */
    private static int lot(long seed, long which) {
        long h = seed;
        for (long it : new long[] {219, which}) {
            h = (h ^ it) * 1103515245L + 12345L & 0xffffffffL;
            h ^= h >> 15;
        }
        return (int) ((h >> 1) % 100);
    }

    private static void year() {
        Check.by(Check.TERMS, "YEAR by s SEEDS (1 .. 20) from the text's SEED on: in how many of them a HOUSE has HAIR of v (0 .. 99) or more"
            + " in n YEARS (0 .. 60).");
        for (int seed : new int[] {0, 7, 9980, 9999}) {
            HairRope x = Check.ropeOf("house a 20 50;house b 20 50;blight 40;seed " + seed + ";");
            for (int house = 0; house < 2; house++) {
                int well = 0;
                for (int s = 1; s <= 20; s++) {
                    well += lot(seed + s - 1, house) < 40 ? 0 : 1;
                    Check.due("year(" + house + ", 21, 1, " + s + "), SEED " + seed, x.year(house, 21, 1, s), well);
                    Check.due("year(" + house + ", 11, 1, " + s + "), SEED " + seed, x.year(house, 11, 1, s), well);
                    Check.due("year(" + house + ", 10, 1, " + s + "), SEED " + seed, x.year(house, 10, 1, s), s);
                    Check.due("year(" + house + ", 22, 1, " + s + "), SEED " + seed, x.year(house, 22, 1, s), 0);
                }
            }
        }
        HairRope x = Check.ropeOf("house a 20 50;house b 0 50;grows=79*(1-which);");
        Check.due("year(0, 99, 1, 20)", x.year(0, 99, 1, 20), 20);
        Check.due("year(0, 99, 60, 20)", x.year(0, 99, 60, 20), 20);
        Check.due("year(0, 99, 0, 20)", x.year(0, 99, 0, 20), 0);
        Check.due("year(0, 20, 0, 20)", x.year(0, 20, 0, 20), 20);
        Check.due("year(0, 21, 0, 20)", x.year(0, 21, 0, 20), 0);
        Check.due("year(1, 0, 60, 1)", x.year(1, 0, 60, 1), 1);
        Check.due("year(1, 1, 60, 20)", x.year(1, 1, 60, 20), 0);
        // From the year on that it is.
        x = Check.ropeOf("house a 20 50;blight 40;seed 7;grows=0;");
        x.years(3);
        int hair = x.house(0, 0);
        int well = 0;
        for (int s = 1; s <= 20; s++) {
            well += lot(7 + s - 1, 24) < 40 ? 0 : 1;
            Check.due("year(0, " + hair + ", 1, " + s + ") in the year 3", x.year(0, hair, 1, s), well);
        }
    }

    private static void yearNone() {
        Check.by(33, "YEAR; NONE: no such ones.");
        HairRope x = Check.ropeOf(ILL);
        for (int no : Check.outside(0, 2)) {
            Check.due("year(" + no + ", 1, 1, 1)", x.year(no, 1, 1, 1), NONE);
        }
        for (int no : Check.outside(0, 99)) {
            Check.due("year(0, " + no + ", 1, 1)", x.year(0, no, 1, 1), NONE);
        }
        for (int no : Check.outside(0, 60)) {
            Check.due("year(0, 1, " + no + ", 1)", x.year(0, 1, no, 1), NONE);
        }
        for (int no : Check.outside(1, 20)) {
            Check.due("year(0, 1, 1, " + no + ")", x.year(0, 1, 1, no), NONE);
        }
        Check.due("year(0, 0, 0, 1) without HOUSES", new HairRope().year(0, 0, 0, 1), NONE);
    }

    // ---- what holds for all of them

    private static void noneAheadOfNot() {
        Check.by(Check.TERMS, "Where NONE and -2 could both be told, it is NONE, if it is not told otherwise.");
        HairRope x = new HairRope();
        for (int no : new int[] {-1, 1000, Check.LEAST, Check.GREATEST}) {
            Check.due("weakest(" + no + ")", x.weakest(no), NONE);
            Check.due("needed(" + no + ")", x.needed(no), NONE);
            Check.due("soon(" + no + ")", x.soon(no), NONE);
            Check.due("lasts(" + no + ")", x.lasts(no), NONE);
            Check.due("fewest(" + no + ", 0)", x.fewest(no, 0), NONE);
            Check.due("peace(" + no + ", 0)", x.peace(no, 0), NONE);
            Check.due("peace(0, " + no + ")", x.peace(0, no), NONE);
            Check.due("rests(" + no + ")", x.rests(no), NONE);
            Check.due("quarrel(" + no + ")", x.quarrel(no), NONE);
            Check.due("greyest(" + no + ")", x.greyest(no), NONE);
            Check.due("rows(0, 1, " + no + ")", x.rows(0, 1, no), NONE);
            Check.due("rows(" + no + ", 1, 1)", x.rows(no, 1, 1), NONE);
            Check.due("rows(0, " + no + ", 1)", x.rows(0, no, 1), NONE);
            Check.due("feel(" + no + ", 1, 0)", x.feel(no, 1, 0), NONE);
            Check.due("feel(0, " + no + ", 0)", x.feel(0, no, 0), NONE);
            Check.due("feel(0, 1, " + no + ")", x.feel(0, 1, no), NONE);
            Check.due("house(" + no + ", 2)", x.house(no, 2), NONE);
        }
    }

    private static void noBlight() {
        Check.by(Check.TERMS, "(nothing happens; no BLIGHT but in IN n YEARS and YEAR)");
        String text = "house a 8 60;house b 6 40;well 14;joins=90-hair;";
        for (int seed = 0; seed < 3; seed++) {
            HairRope x = Check.ropeOf(text);
            HairRope y = Check.ropeOf(text + "blight 100;seed " + seed + ";");
            Check.due("soon(50)", y.soon(50), x.soon(50));
            Check.due("soon(50) comes", y.soon(50), 6);
            Check.due("harvest(0, 5, 1)", y.harvest(0, 5, 1), 13);
            x.splice(0);
            x.splice(1);
            y.splice(0);
            y.splice(1);
            Check.due("lasts(30)", y.lasts(30), x.lasts(30));
            Check.due("lasts(30) ends", y.lasts(30), 11);
            x.years(5);
            Check.due("then(0, 5, 0) with BLIGHT", y.then(0, 5, 0), 0);
            Check.due("year(0, 1, 5, 3) with BLIGHT", y.year(0, 1, 5, 3), 0);
            Check.due("HAIR without", x.house(0, 0), 5);
        }
    }

    private static HairRope busy() {
        HairRope x = Check.ropeOf("house a 8 60;house b 6 40;house c 5 20;house d 4 50;likes a b 9;likes b c 2;well 12;blight 30;seed 5;");
        x.splice(0);
        x.splice(1);
        x.haul(5);
        x.hold(1);
        x.years(2);
        x.tell(0, 30, true);
        Check.feed(x, "well 3; ?");
        return x;
    }

    private static void nothingHappens() {
        Check.by(Check.TERMS, "III. What would be (nothing happens;");
        for (int call = 0; call < 21; call++) {
            HairRope x = busy();
            for (int i = 0; i < 3; i++) {
                ask(x, call, i);
            }
            Trace.same(x, busy(), "behind call " + call);
        }
    }

    private static int ask(HairRope x, int call, int i) {
        switch (call) {
            case 0: return x.most();
            case 1: return x.weakest(i);
            case 2: return x.below(i);
            case 3: return x.orders(i * 20);
            case 4: return x.peak();
            case 5: return x.fewest(i * 20, i - 1);
            case 6: return x.needed(i * 20);
            case 7: return x.soon(20 + i * 30);
            case 8: return x.peace(20 + i * 20, i);
            case 9: return x.rests(i);
            case 10: return x.pivots();
            case 11: return x.share(i);
            case 12: return x.lasts(i * 30);
            case 13: return x.harvest(i, 7, 0);
            case 14: return x.swap();
            case 15: return x.quarrel(i);
            case 16: return x.greyest(i);
            case 17: return x.then(i, 9, i % 2);
            case 18: return x.year(i, 9, 9, 9);
            case 19: return x.rows(1, 1 + i, 0);
            default: return x.feel(1, 1 + i, 50);
        }
    }
}
