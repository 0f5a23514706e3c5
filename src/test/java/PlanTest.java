/** Promises 18 to 29, 32 and 33: what would be. */
public final class PlanTest {
    private static final int NONE = HairRope.NONE;
    private static final int LEAST = Integer.MIN_VALUE;
    private static final int GREATEST = Integer.MAX_VALUE;
    private static final int[] NO_HAULS = {-1, 1000, LEAST, GREATEST};

    // LONG as the WELL is deep: a with b 40 (b with a 32), a with c 20 (c with a 12), and all three:
    // abc 15, acb 14, bac 20, bca 7, cab 6, cba 6.
    private static final String THREE = "house a 8 60; house b 6 40; house c 5 20;"
        + " likes a b 9; likes a c 7; likes b c 2; well 12;";
    // JOINS 20 each, 45 once made up; all three must be in the ROPE.
    private static final String QUARRELS = "house a 8 60; house b 6 60; house c 5 60; well 19; joins = like * 5;"
        + "likes a b 4; likes a c 4; likes b c 4;";

    public static void main(String[] args) {
        orders();
        ordersOfPlaits();
        peaks();
        fewest();
        needed();
        soon();
        peace();
        rests();
        restsOfPlaits();
        pivots();
        lasts();
        harvests();
        harvestsAsNow();
        swaps();
        thens();
        yearsBySeeds();
        nothingHappens();
        Check.end();
    }

    private static void orders() {
        HairRope x = Check.ropeOf(THREE);
        int[] hauls = {0, 6, 7, 8, 12, 13, 14, 15, 16, 20, 21, 32, 33, 40, 41, 999};
        int[] want = {10, 10, 8, 7, 7, 6, 6, 5, 4, 4, 2, 2, 1, 1, 0, 0};
        for (int i = 0; i < hauls.length; i++) {
            Check.due("orders(" + hauls[i] + ")", x.orders(hauls[i]), want[i]);
        }
        for (int no : NO_HAULS) {
            Check.due("orders(" + no + ")", x.orders(no), NONE);
        }
        x = Check.ropeOf("house a 8 60; house b 0 40; house c 5 20; well 1;");
        Check.due("orders(0) without HAIR of b: a, c, ac, ca", x.orders(0), 4);
        x = Check.ropeOf("house a 2 99; house b 2 99; house c 2 99; house d 2 99; house e 2 99; house f 2 99; well 1; joins = 999;");
        Check.due("orders(0) of all six", x.orders(0), 6 + 30 + 120 + 360 + 720 + 720);
        x = Check.ropeOf("house a 2 99; house b 2 99; house c 2 99; house d 2 99; house e 2 99; house f 2 99; well 12; joins = 999;");
        Check.due("orders(0) that reach", x.orders(0), 720);
        x = Check.ropeOf("house a 2 99; house b 2 99; well 5; joins = 999;");
        Check.due("orders(0) that reach not", x.orders(0), 0);
        Check.due("orders(0) without HOUSES", new HairRope().orders(0), 0);
    }

    private static void ordersOfPlaits() {
        // The PLAIT of a is 8 LONG, though its HAIR is 3 by now; it is 57 STRONG; b and c have HAIR 9 and 8.
        HairRope x = Check.ropeOf(THREE + "joins = 999;", 0);
        x.years(3);
        Check.due("a alone does not reach, b with c and so on do", x.orders(0), 12);
        Check.due("a on b: 57 - 9, b: 40", x.orders(40), 1);
        Check.due("peak()", x.peak(), 40);
        x = Check.ropeOf("house a 8 60; house b 6 40; well 14; joins = place * 100 + spliced * 10;", 1);
        // LAWS are asked as it is now: both at place 0 (b's own), one PLAIT in the ROPE, in every PLANNED ROPE.
        Check.due("JOINS of 10 bear LONG 6 or 8 and 4 or 2", x.peak(), 4);
        x.years(60);
        Check.due("the PLAIT of b is worn, a alone holds", x.peak(), 60);
        Check.due("fewest(0, 0)", x.fewest(0, 0), 0);
    }

    private static void peaks() {
        Check.due("peak()", Check.ropeOf(THREE).peak(), 40);
        Check.due("peak() without HOUSES", new HairRope().peak(), -2);
        Check.due("peak(): none reaches", Check.ropeOf("house a 5 60; well 6;").peak(), -2);
        Check.due("peak() of one", Check.ropeOf("house a 6 99; well 6;").peak(), 99);
        Check.due("peak() of 0", Check.ropeOf("house a 6 6; house b 6 9; well 12; joins = 6;").peak(), 0);
        Check.due("peak(): reaches, does not hold", Check.ropeOf("house a 6 5; house b 6 9; well 12; joins = 5;").peak(), -2);
    }

    private static void fewest() {
        HairRope x = Check.ropeOf(THREE);
        int[][] want = {{10, 2, 0, 1}, {20, 2, 0, 1}, {33, 2, 0, 1}};
        for (int[] w : want) {
            Check.due("fewest(" + w[0] + ", NONE)", x.fewest(w[0], NONE), w[1]);
            Check.due("fewest(" + w[0] + ", 0)", x.fewest(w[0], 0), w[2]);
            Check.due("fewest(" + w[0] + ", 1)", x.fewest(w[0], 1), w[3]);
            for (int no : new int[] {2, 6, -2, LEAST, GREATEST}) {
                Check.due("fewest(" + w[0] + ", " + no + ")", x.fewest(w[0], no), NONE);
            }
        }
        for (int i : new int[] {NONE, 0, 5}) {
            Check.due("fewest(41, " + i + ")", x.fewest(41, i), -2);
            for (int no : NO_HAULS) {
                Check.due("fewest(" + no + ", " + i + ")", x.fewest(no, i), NONE);
            }
        }
        x = Check.ropeOf(THREE + "well 19;");
        int[] top = {0, 1, 2};
        for (int i = 0; i < 3; i++) {
            Check.due("fewest(15, " + i + ") of all three", x.fewest(15, i), top[i]);
        }
        int[] bac = {1, 0, 2};
        for (int i = 0; i < 3; i++) {
            Check.due("fewest(16, " + i + ") of bac alone", x.fewest(16, i), bac[i]);
        }
        x = Check.ropeOf("house a 9 20; house b 9 20; house c 9 60; house d 20 5; well 18; joins = 999;");
        Check.due("fewest(3, NONE): d alone", x.fewest(3, NONE), 1);
        Check.due("fewest(3, 0)", x.fewest(3, 0), 3);
        Check.due("fewest(12, NONE)", x.fewest(12, NONE), 2);
        Check.due("fewest(12, 0): the top is c", x.fewest(12, 0), 2);
        Check.due("fewest(12, 1): then the lowest", x.fewest(12, 1), 0);
        Check.due("fewest(11, 0)", x.fewest(11, 0), 0);
        Check.due("fewest(11, 1)", x.fewest(11, 1), 1);
    }

    private static void needed() {
        HairRope x = Check.ropeOf(THREE);
        Check.due("needed(0)", x.needed(0), 1);
        Check.due("needed(20)", x.needed(20), 1);
        Check.due("needed(21)", x.needed(21), 3);
        Check.due("needed(40)", x.needed(40), 3);
        Check.due("needed(41)", x.needed(41), -2);
        for (int no : NO_HAULS) {
            Check.due("needed(" + no + ")", x.needed(no), NONE);
        }
        Check.due("needed(0): none of them", Check.ropeOf("house a 5 9; house b 5 9; well 5; joins = 0;").needed(0), 0);
        Check.due("needed(0): all", Check.ropeOf(THREE + "well 19;").needed(0), 7);
    }

    private static void soon() {
        for (String more : new String[] {"", "blight 100; seed 3;"}) {
            HairRope x = Check.ropeOf(THREE + more);
            Check.due("soon(40)", x.soon(40), 0);
            Check.due("soon(41): a alone, once its HAIR is 12", x.soon(41), 4);
            Check.due("soon(60)", x.soon(60), 4);
            Check.due("soon(61)", x.soon(61), -2);
            for (int no : NO_HAULS) {
                Check.due("soon(" + no + ")", x.soon(no), NONE);
            }
        }
        Check.due("soon(0) in 60 YEARS", Check.ropeOf("house a 1 9; well 61;").soon(0), 60);
        Check.due("soon(0) in 61 YEARS", Check.ropeOf("house a 0 9; well 61;").soon(0), -2);
        Check.due("soon(0) without HOUSES", new HairRope().soon(0), -2);
        Check.due("soon(0) by LAWS of the year", Check.ropeOf("house a 8 99; house b 8 99; well 16; joins = year * 2; grows = 0;").soon(3), 6);
        HairRope x = Check.ropeOf("house a 8 60; house b 6 40; well 12; joins = 999;", 0);
        Check.due("soon(45): b bears 40, the PLAIT of a does not grow", x.soon(45), -2);
        x = Check.ropeOf("house a 8 60; house b 6 60; well 13; grows = if year < 2 then 0 else 9; weakens = 1;", 1);
        x.years(1);
        Check.due("soon(52): a alone, 2 YEARS on", x.soon(52), 2);
    }

    private static void peace() {
        HairRope x = Check.ropeOf(QUARRELS);
        int[][] want = {{9, 0, -1, -1}, {15, 1, 1, -1}, {16, 2, 1, 2}, {32, 2, 1, 2}, {33, 2, 1, 12}, {34, 2, 1, 12}, {35, -2, -2, -2}};
        for (int[] w : want) {
            for (int what = 0; what <= 2; what++) {
                Check.due("peace(" + w[0] + ", " + what + ")", x.peace(w[0], what), w[what + 1]);
            }
            for (int no : new int[] {-1, 3, LEAST, GREATEST}) {
                Check.due("peace(" + w[0] + ", " + no + ")", x.peace(w[0], no), NONE);
            }
        }
        for (int no : NO_HAULS) {
            Check.due("peace(" + no + ", 0)", x.peace(no, 0), NONE);
        }
        x = Check.ropeOf(QUARRELS + "well 12;");
        Check.due("peace(15, 0) of two", x.peace(15, 0), 0);
        Check.due("peace(16, 0) of two", x.peace(16, 0), 1);
        Check.due("peace(16, 1)", x.peace(16, 1), 1);
        Check.due("peace(40, 1): a with c", x.peace(40, 1), 2);
        x = Check.ropeOf(QUARRELS + "likes c b 9; likes a b 9; well 12;");
        Check.due("peace(39, 0): made up already", x.peace(39, 0), 0);
        Check.due("likes(0, 2) stay", x.likes(0, 2), 4);
        Check.due("peace(40, 1)", x.peace(40, 1), 2);
        Check.due("joins(0, 2) stay", x.joins(0, 2), 20);
        Check.due("peace(0, 0) without HOUSES", new HairRope().peace(0, 0), -2);
        // Made up both ways: b bears nothing besides, so it must be the lower one; or the upper one.
        x = Check.ropeOf("house a 8 60; house b 6 9; well 14; joins = if like < 9 then 0 else 99;");
        Check.due("peace(9, 1): a on b", x.peace(9, 1), 1);
        x = Check.ropeOf("house a 8 9; house b 6 60; well 14; joins = if like < 9 then 0 else 99;");
        Check.due("peace(9, 1): b on a", x.peace(9, 1), 1);
        String chain = "house a 5 99; house b 5 99; house c 5 99; house d 5 99; well 20; joins = like * 5; likes a b 0; likes b c 0;"
            + "likes c d 0; likes a c 0; likes b d 0; likes a d 0;";
        Check.due("peace(0, 0): three would do", Check.ropeOf(chain).peace(0, 0), -2);
        x = Check.ropeOf(chain + "likes c d 9;");
        Check.due("peace(0, 1)", x.peace(0, 1), 1);
        Check.due("peace(0, 2): a with c, as c with d is made up", x.peace(0, 2), 2);
    }

    private static void rests() {
        String three = "house a 8 60; house b 6 40; house c 5 20; ";
        int[][] want = {{12, 10, 3, 0}, {12, 7, 1, 0}, {8, 10, 2, 1}, {5, 10, 3, 1}, {99, 10, 1, 0}, {12, 0, 1, 0}};
        for (int[] w : want) {
            HairRope x = Check.ropeOf(three + "well " + w[0] + "; water " + w[1] + ";");
            Check.due("rests(0), WELL " + w[0] + ", WATER " + w[1], x.rests(0), w[2]);
            Check.due("rests(1), WELL " + w[0] + ", WATER " + w[1], x.rests(1), w[3]);
            for (int no : new int[] {-1, 2, LEAST, GREATEST}) {
                Check.due("rests(" + no + ")", x.rests(no), NONE);
            }
        }
        HairRope x = Check.ropeOf(three + "well 5; costs = if which < 1 then 11 else hair;");
        Check.due("rests(0): b or c", x.rests(0), 2);
        Check.due("rests(1): b", x.rests(1), 2);
        // With none to spare all give or none; giving for just as much as the WATER is worth is no less.
        x = Check.ropeOf(three + "well 19; water 8;");
        Check.due("rests(0): none or all", x.rests(0), 2);
        // b alone, or a with c: fewer HOUSES count more than less bits.
        x = Check.ropeOf("house a 5 60; house b 11 40; house c 6 20; costs = 1; well 11;");
        Check.due("rests(0)", x.rests(0), 2);
        Check.due("rests(1)", x.rests(1), 2);
        x = Check.ropeOf("house a 0 60; house b 11 40; well 11; costs = 0;");
        Check.due("rests(0): who has nothing can not give; giving costs nothing, too", x.rests(0), 1);
        Check.due("rests(1)", x.rests(1), 2);
        Check.due("rests(0) without HOUSES", new HairRope().rests(0), 1);
        Check.due("rests(1) without HOUSES", new HairRope().rests(1), 0);
    }

    private static void restsOfPlaits() {
        String three = "house a 8 60; house b 6 40; house c 5 20; well 12; costs = 5;";
        Check.due("rests(0), WATER 0", Check.ropeOf(three + "water 0;").rests(0), 1);
        HairRope x = Check.ropeOf(three + "water 0;", 0);
        Check.due("rests(0): a PLAIT costs nothing more", x.rests(0), 2);
        Check.due("house(0, 7): COSTS all the same", x.house(0, 7), 5);
        x = Check.ropeOf(three + "water 3;", 0, 1);
        Check.due("rests(0): a and b have PLAITS that reach; c hides", x.rests(0), 2);
        x.years(9);
        Check.due("pivots(): a PLAIT is as LONG as it was, c has 14", x.pivots(), 0);
        x = Check.ropeOf("house a 8 60; house b 6 40; well 20;", 0);
        x.years(9);
        Check.due("pivots(): a has its PLAIT of 8, not the HAIR besides", x.pivots(), 3);
    }

    private static void pivots() {
        String three = "house a 8 60; house b 6 40; house c 5 20; house d 0 9;";
        int[][] want = {{5, 0}, {11, 0}, {12, 1}, {13, 1}, {14, 3}, {15, 7}, {19, 7}, {20, 15}, {99, 15}};
        for (int[] w : want) {
            Check.due("pivots(), WELL " + w[0], Check.ropeOf(three + "well " + w[0] + ";").pivots(), w[1]);
        }
        Check.due("pivots() without HOUSES", new HairRope().pivots(), 0);
    }

    private static void lasts() {
        HairRope x = Check.ropeOf(THREE + "well 99; blight 100;");
        Check.due("lasts(0) without ROPE", x.lasts(0), -2);
        for (int no : NO_HAULS) {
            Check.due("lasts(" + no + ")", x.lasts(no), NONE);
        }
        x.splice(0);
        x.splice(1);
        Check.due("lasts(34)", x.lasts(34), 7);
        Check.due("lasts(40)", x.lasts(40), 1);
        Check.due("lasts(41)", x.lasts(41), 0);
        Check.due("lasts(999)", x.lasts(999), 0);
        x = Check.ropeOf("house a 8 99;", 0);
        Check.due("lasts(40): in 60 YEARS", x.lasts(40), 60);
        Check.due("lasts(39)", x.lasts(39), -2);
        Check.due("lasts(0) with WEAKENS 0", Check.ropeOf("house a 8 99; weakens = 0;", 0).lasts(0), -2);
        // HAIR grows in those YEARS, whatever the BLIGHT.
        x = Check.ropeOf("house a 8 99; house b 6 99; weakens = 0; joins = 50 - hair; blight 100;", 0, 1);
        Check.due("lasts(40) of a JOIN", x.lasts(40), 5);
        Check.due("lasts(44) of a JOIN", x.lasts(44), 1);
    }

    private static void harvest(String text, int n, int step, int sum) {
        HairRope x = Check.ropeOf(text);
        Check.due("harvest(0, " + n + ", 0) of " + text, x.harvest(0, n, 0), step);
        Check.due("harvest(0, " + n + ", 1) of " + text, x.harvest(0, n, 1), sum);
    }

    private static void harvests() {
        harvest("house a 8 9; grows = 1;", 4, 1, 12);
        harvest("house a 8 9; grows = 1; blight 100; seed 4;", 4, 1, 12);
        harvest("house a 8 9; grows = hair;", 4, 4, 99);
        harvest("house a 8 9; grows = hair;", 3, 3, 64);
        harvest("house a 8 9; grows = hair;", 1, 1, 16);
        harvest("house a 0 9; grows = 2;", 60, 1, 120);
        // Behind 1, 2, 3 YEARS 1, 2, 4 more; from nothing on, too: 7 + 1 behind 4, or 3 + 3 by twos.
        harvest("house a 0 9; grows = hair + 1;", 4, 4, 15);
        // No more than 3, once it is there: behind each 2 YEARS 3, and 1 of the last one.
        harvest("house a 0 9; grows = if hair < 1 then 1 else if hair < 2 then 5 else 0;", 5, 2, 13);
        harvest("house a 0 9; grows = if hair < 1 then 1 else if hair < 2 then 5 else 0;", 6, 2, 18);
        harvest("house a 0 9; grows = if year < 3 then 0 else 7;", 5, 1, 14);
        HairRope x = Check.ropeOf("house a 8 9; house b 3 9;");
        Check.due("harvest(1, 60, 1)", x.harvest(1, 60, 1), 63);
        for (int no : new int[] {-1, 2, 6, LEAST, GREATEST}) {
            Check.due("harvest(" + no + ", 5, 0)", x.harvest(no, 5, 0), NONE);
            Check.due("harvest(0, 5, " + no + ")", x.harvest(0, 5, no), NONE);
        }
        for (int no : new int[] {-1, 0, 61, LEAST, GREATEST}) {
            Check.due("harvest(0, " + no + ", 0)", x.harvest(0, no, 0), NONE);
        }
    }

    private static void harvestsAsNow() {
        HairRope x = Check.ropeOf("house a 8 9; house b 3 9; grows = given * 10 + spliced + 1;", 0, 1);
        x.unsplice();
        Check.due("harvest(0, 3, 1): given once, one PLAIT", x.harvest(0, 3, 1), 36);
        Check.due("harvest(1, 3, 1)", x.harvest(1, 3, 1), 36);
        Check.due("given stays", x.house(0, 8), 1);
        x = Check.ropeOf("house a 8 50; grows = strong; weakens = 10;", 0);
        Check.due("harvest(0, 2, 1): its PLAIT weakens", x.harvest(0, 2, 1), 90);
        x = Check.ropeOf("house a 8 50; grows = strong; weakens = 10;");
        Check.due("harvest(0, 2, 1): STRONG as at first", x.harvest(0, 2, 1), 58 + 50);
    }

    private static void swap(String text, int want) {
        HairRope x = Check.ropeOf("well 99;" + text);
        int houses = x.count(0);
        for (int house = 0; house < houses; house++) {
            x.splice(house);
        }
        Check.due("swap() of " + text, x.swap(), want);
    }

    private static void swaps() {
        swap("", -2);
        swap("house a 5 9;", -2);
        swap("house a 10 20; house b 5 90; joins = 99;", 1);
        swap("house a 5 90; house b 10 20; joins = 99;", -2);
        swap("house a 5 50; house b 5 50; joins = 99;", -2);
        swap("house a 5 99; house b 5 10; house c 5 99; joins = 999;", 12);
        swap("house a 5 10; house b 5 99; house c 5 99; joins = 999;", 2);
        swap("house a 9 30; house b 2 31; joins = 999;", -2);
        // Both 1 and 2 come to 5, from 4.
        swap("house a 5 10; house b 1 99; house c 5 11; joins = 999;", 1);
        // a breaks with 0 at the top, and bears 3 below.
        swap("house a 10 3; house b 5 90; joins = 99;", 1);
        swap("house a 5 1; house b 10 2; joins = 99;", -2);
        // By LAWS, a at place 1 has JOINS of 0.
        swap("house a 5 99; house b 5 99; house c 5 99;"
            + "joins = if which < 1 then 10 - place * 10 else if which < 2 then 99 else 0;", -2);
        swap("house a 5 99; house b 5 99; house c 5 99;"
            + "joins = if which < 1 then 10 + place * 10 else if which < 2 then 99 else 0;", 1);
        HairRope x = Check.ropeOf("house a 10 20; house b 5 90; joins = 99;", 0, 1);
        Check.due("swap()", x.swap(), 1);
        Check.due("at(0) stays", x.at(0), 0);
        Check.due("most() stays", x.most(), 15);
    }

    private static final String ILL = "house a 20 50; house b 20 50; house c 20 50; blight 24; seed 7;";

    private static void thens() {
        HairRope x = Check.ropeOf(ILL);
        int[][] want = {{20, 10, 5, 6}, {20, 21, 22, 23}, {20, 21, 10, 11}};
        for (int house = 0; house < 3; house++) {
            for (int n = 0; n <= 3; n++) {
                Check.due("then(" + house + ", " + n + ", 0)", x.then(house, n, 0), want[house][n]);
                Check.due("then(" + house + ", " + n + ", 1)", x.then(house, n, 1), 0);
            }
        }
        x.splice(1);
        Check.due("then(1, 0, 1)", x.then(1, 0, 1), 50);
        Check.due("then(1, 3, 1)", x.then(1, 3, 1), 47);
        Check.due("then(1, 60, 1)", x.then(1, 60, 1), 0);
        x.years(1);
        Check.due("then(0, 1, 0) from the year 1 on", x.then(0, 1, 0), 5);
        for (int no : new int[] {-1, 3, 6, LEAST, GREATEST}) {
            Check.due("then(" + no + ", 1, 0)", x.then(no, 1, 0), NONE);
        }
        for (int no : new int[] {-1, 2, LEAST, GREATEST}) {
            Check.due("then(0, 1, " + no + ")", x.then(0, 1, no), NONE);
        }
        for (int no : new int[] {-1, 61, LEAST, GREATEST}) {
            Check.due("then(0, " + no + ", 0)", x.then(0, no, 0), NONE);
        }
    }

    private static void yearsBySeeds() {
        // LOT 100 of SEEDS 7, 8, 9, 10 for HOUSE 0 in the year 0: 9, 64, 82, 51; of 9999, 10000: 69, 66.
        HairRope x = Check.ropeOf(ILL);
        Check.due("year(0, 21, 1, 1)", x.year(0, 21, 1, 1), 0);
        Check.due("year(0, 21, 1, 2)", x.year(0, 21, 1, 2), 1);
        Check.due("year(0, 21, 1, 4)", x.year(0, 21, 1, 4), 3);
        Check.due("year(0, 10, 1, 4)", x.year(0, 10, 1, 4), 4);
        Check.due("year(0, 11, 1, 4)", x.year(0, 11, 1, 4), 3);
        Check.due("year(0, 22, 1, 4)", x.year(0, 22, 1, 4), 0);
        Check.due("year(0, 20, 0, 20)", x.year(0, 20, 0, 20), 20);
        Check.due("year(0, 21, 0, 20)", x.year(0, 21, 0, 20), 0);
        Check.due("year(0, 0, 60, 20)", x.year(0, 0, 60, 20), 20);
        Check.due("year(0, 99, 60, 20)", x.year(0, 99, 60, 20), 0);
        x = Check.ropeOf("house a 20 50; seed 9999; blight 67;");
        Check.due("year(0, 21, 1, 2) of SEEDS 9999 and 10000", x.year(0, 21, 1, 2), 1);
        x = Check.ropeOf(ILL);
        int[] no = {-1, LEAST, GREATEST};
        for (int n : no) {
            Check.due("year(" + n + ", 1, 1, 1)", x.year(n, 1, 1, 1), NONE);
            Check.due("year(0, " + n + ", 1, 1)", x.year(0, n, 1, 1), NONE);
            Check.due("year(0, 1, " + n + ", 1)", x.year(0, 1, n, 1), NONE);
            Check.due("year(0, 1, 1, " + n + ")", x.year(0, 1, 1, n), NONE);
        }
        Check.due("year(3, 1, 1, 1)", x.year(3, 1, 1, 1), NONE);
        Check.due("year(0, 100, 1, 1)", x.year(0, 100, 1, 1), NONE);
        Check.due("year(0, 1, 61, 1)", x.year(0, 1, 61, 1), NONE);
        Check.due("year(0, 1, 1, 0)", x.year(0, 1, 1, 0), NONE);
        Check.due("year(0, 1, 1, 21)", x.year(0, 1, 1, 21), NONE);
    }

    private static void nothingHappens() {
        HairRope x = Check.ropeOf(ILL + THREE.replace("house a 8 60; house b 6 40; house c 5 20;", ""), 0);
        int[] was = all(x);
        x.orders(3);
        x.peak();
        x.fewest(3, 1);
        x.needed(3);
        x.soon(90);
        x.peace(90, 0);
        x.rests(0);
        x.pivots();
        x.lasts(3);
        x.harvest(0, 9, 0);
        x.swap();
        x.then(0, 9, 0);
        x.year(0, 1, 9, 9);
        x.most();
        x.weakest(0);
        x.feel(0, 2, 50);
        int[] is = all(x);
        for (int i = 0; i < was.length; i++) {
            Check.due("thing " + i + " behind what would be", is[i], was[i]);
        }
    }

    private static int[] all(HairRope x) {
        int[] all = new int[17 + 3 * 9 + 9];
        int n = 0;
        for (int what = 0; what <= 16; what++) {
            all[n++] = x.count(what);
        }
        for (int house = 0; house < 3; house++) {
            for (int what = 0; what <= 8; what++) {
                all[n++] = x.house(house, what);
            }
            for (int other = 0; other < 3; other++) {
                all[n++] = x.joins(house, other);
            }
        }
        return all;
    }
}
