/** Promises 1, 6 to 17, 26, 30, 31 and 38 to 40: what is there, what is done by hand, what the ROPE bears. */
public final class RopeTest {
    private static final int NONE = HairRope.NONE;
    private static final int LEAST = Integer.MIN_VALUE;
    private static final int GREATEST = Integer.MAX_VALUE;

    private static final String THREE = "house a 10 50; house b 6 30; house c 4 20; likes a b 8; likes b a 7; likes c b 3;"
        + " well 16; water 12; grows = which + 1; weakens = 2 + place; joins = like * 5 + other - year; costs = hair - given;";

    public static void main(String[] args) {
        newObject();
        houses();
        likesAndJoins();
        laws();
        lawsThatWrap();
        lawsThatDivide();
        lawsLookAt();
        splices();
        unsplices();
        hauls();
        haulsThatBreakJoins();
        years();
        blights();
        undoes();
        undoesForty();
        mostAndWeakest();
        mostEdges();
        mostOfSix();
        belows();
        shares();
        quarrelsAndGreyest();
        holds();
        counts();
        Check.end();
    }

    private static void newObject() {
        HairRope x = new HairRope();
        Check.due("NONE", HairRope.NONE, -1);
        int[] want = {0, 20, 0, 0, 0, 0, 0, 0, 0, 0, 0, 0, 0, 10, 0, 0, 0, NONE};
        for (int what = 0; what < want.length; what++) {
            Check.due("new count(" + what + ")", x.count(what), want[what]);
        }
        Check.due("new place()", x.place(), NONE);
        Check.due("new house(0, 0)", x.house(0, 0), NONE);
        Check.due("new splice(0)", x.splice(0), NONE);
        Check.due("new most()", x.most(), 999);
        Check.due("new undo()", x.undo(), false);
    }

    private static void houses() {
        HairRope x = Check.ropeOf(THREE, 1, 0);
        int[][] want = {{0, 50, 1, 10, 50, 1, 3, -1 + 1, 1}, {0, 30, 0, 6, 30, 2, 2, 0, 1}, {4, 20, -2, 0, 0, 3, 2, 4, 0}};
        for (int house = 0; house < 3; house++) {
            for (int what = 0; what <= 8; what++) {
                Check.due("house(" + house + ", " + what + ")", x.house(house, what), want[house][what]);
            }
            for (int what : new int[] {-1, 9, LEAST, GREATEST}) {
                Check.due("house(" + house + ", " + what + ")", x.house(house, what), NONE);
            }
        }
        for (int house : new int[] {-1, 3, 6, LEAST, GREATEST}) {
            Check.due("house(" + house + ", 2)", x.house(house, 2), NONE);
        }
    }

    private static void likesAndJoins() {
        HairRope x = Check.ropeOf(THREE);
        int[][] likes = {{NONE, 7, 5}, {7, NONE, 3}, {5, 3, NONE}};
        int[][] joins = {{NONE, 65, 45}, {85, NONE, 35}, {75, 45, NONE}};
        for (int a = 0; a < 3; a++) {
            for (int b = 0; b < 3; b++) {
                Check.due("likes(" + a + ", " + b + ")", x.likes(a, b), likes[a][b]);
                Check.due("joins(" + a + ", " + b + ")", x.joins(a, b), joins[a][b]);
            }
            for (int no : new int[] {-1, 3, LEAST, GREATEST}) {
                Check.due("likes(" + a + ", " + no + ")", x.likes(a, no), NONE);
                Check.due("likes(" + no + ", " + a + ")", x.likes(no, a), NONE);
                Check.due("joins(" + a + ", " + no + ")", x.joins(a, no), NONE);
                Check.due("joins(" + no + ", " + a + ")", x.joins(no, a), NONE);
            }
        }
        x.splice(0);
        x.years(5);
        Check.due("joins(1, 0), STRONG 40, year 5", x.joins(1, 0), 70);
        HairRope y = Check.ropeOf("house a 10 50; house b 6 30; joins = like * 1000;");
        Check.due("joins of 999 at most", y.joins(0, 1), 999);
        y = Check.ropeOf("house a 10 50; house b 6 30; joins = 3 - strong;");
        Check.due("joins of 0 at least", y.joins(0, 1), 0);
        y = Check.ropeOf("house a 10 50; house b 6 30;");
        Check.due("joins untold", y.joins(0, 1), 50);
        y = Check.ropeOf("house a 10 50; house b 6 30; joins = strong * 10 + which + place;", 1, 0);
        Check.due("joins of the first one", y.joins(0, 1), 501);
        Check.due("joins of the other one", y.joins(1, 0), 301);
    }

    /** What COSTS of HOUSE 0 (HAIR 10, STRONG 50) are by a LAW. */
    private static void costs(String law, int want) {
        HairRope x = Check.ropeOf("house a 10 50; house b 7 30; costs = " + law + ";");
        Check.due(law, x.house(0, 7), want);
    }

    private static void laws() {
        costs("7", 7);
        costs("100", 99);
        costs("0 - 1", 0);
        costs("2 + 3 * 4", 14);
        costs("(2 + 3) * 4", 20);
        costs("20 - 3 - 2", 15);
        costs("20 - (3 - 2)", 19);
        costs("90 / 3 / 2", 15);
        costs("90 / (3 / 2)", 90);
        costs("7 / 2 * 2", 6);
        costs("50 + (0 - 7) / 2", 47);
        costs("50 + (0 - 7) / (0 - 2)", 53);
        costs("if 1 < 2 then 3 else 4", 3);
        costs("if 2 < 2 then 3 else 4", 4);
        costs("if 3 < 2 then 3 else 4", 4);
        costs("if 2 < 1 then 3 else if 1 < 2 then 5 else 6", 5);
        costs("if 1 < 2 then 3 else if 1 < 2 then 5 else 6", 3);
        costs("if 2 < 1 then 3 else if 2 < 1 then 5 else if 2 < 1 then 6 else if 2 < 1 then 7 else 8", 8);
        costs("if hair < 11 then strong else 1", 50);
        costs("if hair < 10 then strong else 1", 1);
        costs("0010", 10);
        costs("1 + 1 * (1 + 1 * (1 + 1 * (1 + 1 * (1 + 1 * (1 + 1 * (1 + 1 * 2))))))", 9);
        costs("if 1 + 1 * (1 + 1 * (1 + 1 * (1 + 1 * 2))) < 1 + 1 * (1 + 1 * (1 + 1 * (1 + 1 * (1 + 1 * 2)))) then 3 else 4", 3);
        costs("hair" + " * 1".repeat(190), 10);
        costs("1" + " + 1".repeat(80), 81);
        HairRope x = Check.ropeOf("house a 10 50; costs = 7; grows = 3; costs = 9; grows = 4; weakens = 5;");
        Check.due("the last COSTS", x.house(0, 7), 9);
        Check.due("the last GROWS", x.house(0, 5), 4);
        Check.due("WEAKENS", x.house(0, 6), 5);
        x = Check.ropeOf("house a 10 50;");
        Check.due("GROWS untold", x.house(0, 5), 1);
        Check.due("WEAKENS untold", x.house(0, 6), 1);
        Check.due("COSTS untold", x.house(0, 7), 10);
        x = Check.ropeOf("house a 10 50; grows = 100; weakens = 0 - 5;");
        Check.due("GROWS of 99 at most", x.house(0, 5), 99);
        Check.due("WEAKENS of 0 at least", x.house(0, 6), 0);
    }

    private static void lawsThatWrap() {
        // 8192 * 8192 * 64 is 2 to the 32nd.
        costs("8192 * 8192 * 64 + 9", 9);
        // 2 to the 31st is the least int, from which one less is the greatest.
        costs("if 8192 * 8192 * 32 < 0 then 11 else 12", 11);
        costs("if 8192 * 8192 * 32 - 1 < 0 then 11 else 12", 12);
        costs("if 8192 * 8192 * 32 / (0 - 1) < 0 then 11 else 12", 11);
        costs("if 0 - 8192 * 8192 * 32 < 0 then 11 else 12", 11);
        // 9999 three times wraps to -1027349969.
        costs("9999 * 9999 * 9999 / 9999", 0);
        costs("0 - 9999 * 9999 * 9999 / 9999 / 9999", 10);
    }

    private static void lawsThatDivide() {
        costs("5 / 0", 0);
        costs("5 + 7 / (hair - 10)", 0);
        costs("5 + 0 * (1 / 0)", 0);
        costs("if 1 / 0 < 5 then 3 else 4", 0);
        costs("if 5 < 1 / 0 then 3 else 4", 0);
        costs("if 1 < 2 then 3 else 1 / 0", 3);
        costs("if 1 < 2 then 1 / 0 else 4", 0);
        costs("if 2 < 1 then 1 / 0 else 4", 4);
        costs("if 2 < 1 then 3 else 1 / 0", 0);
        costs("if 1 < 2 then 3 else if 1 / 0 < 1 then 4 else 5", 3);
        costs("if 2 < 1 then 3 else if 1 / 0 < 1 then 4 else 5", 0);
        costs("0 / 5 + 6", 6);
        HairRope x = Check.ropeOf("house a 10 50; house b 9 40; joins = 5 + like / (like - 5);");
        Check.due("JOINS divided by 0", x.joins(0, 1), 0);
    }

    private static void lawsLookAt() {
        String vars = "house a 10 50; house b 7 30; house c 5 20; ";
        String[] names = {"hair", "strong", "like", "year", "place", "which", "spliced", "given", "other"};
        int[] at0 = {7, 30, 0, 0, 0, 1, 0, 0, 0};
        int[] spliced = {0, 30, 0, 0, 1, 1, 2, 1, 0};
        int[] later = {3, 27, 0, 3, 1, 1, 2, 1, 0};
        for (int i = 0; i < names.length; i++) {
            HairRope x = Check.ropeOf(vars + "costs = " + names[i] + ";");
            Check.due(names[i] + " at first", x.house(1, 7), at0[i]);
            x.splice(2);
            x.splice(1);
            Check.due(names[i] + " once spliced", x.house(1, 7), spliced[i]);
            x.years(3);
            Check.due(names[i] + " 3 YEARS later", x.house(1, 7), later[i]);
            x.unsplice();
            int[] without = {3, 30, 0, 3, 0, 1, 1, 1, 0};
            Check.due(names[i] + " once unspliced", x.house(1, 7), without[i]);
        }
        HairRope y = Check.ropeOf(vars + "costs = like + other;");
        Check.due("JOINS ahead", y.joins(1, 2), 50);
        Check.due("like and other of one HOUSE, behind JOINS", y.house(1, 7), 0);
        int[] ofTwo = {10, 50, 5, 0, 0, 0, 0, 0, 30};
        for (int i = 0; i < names.length; i++) {
            HairRope x = Check.ropeOf(vars + "joins = " + names[i] + ";");
            Check.due("JOINS by " + names[i], x.joins(0, 1), ofTwo[i]);
        }
    }

    private static void splices() {
        HairRope x = Check.ropeOf(THREE + "house d 0 9;");
        Check.due("splice(3) of HAIR 0", x.splice(3), NONE);
        Check.due("splice(0)", x.splice(0), 10);
        Check.due("splice(0) again", x.splice(0), NONE);
        for (int no : new int[] {-1, 4, 6, LEAST, GREATEST}) {
            Check.due("splice(" + no + ")", x.splice(no), NONE);
        }
        Check.due("nothing else is done", x.count(9), 1);
        Check.due("splice(2)", x.splice(2), 14);
        Check.due("splice(1)", x.splice(1), 20);
        Check.due("at(0)", x.at(0), 0);
        Check.due("at(1)", x.at(1), 2);
        Check.due("at(2)", x.at(2), 1);
        for (int no : new int[] {-1, 3, 6, LEAST, GREATEST}) {
            Check.due("at(" + no + ")", x.at(no), NONE);
        }
        x.years(4);
        Check.due("HAIR grows though there is a PLAIT", x.house(0, 0), 4);
        Check.due("splice(0) with HAIR and a PLAIT", x.splice(0), NONE);
        x.unsplice();
        Check.due("splice(1) anew", x.splice(1), 10 + 4 + 8);
        Check.due("STRONG as at first", x.house(1, 4), 30);
        Check.due("given twice", x.house(1, 8), 2);
        HairRope six = Check.ropeOf("house a 1 9; house b 2 9; house c 3 9; house d 4 9; house e 5 9; house f 6 9;", 5, 4, 3, 2, 1, 0);
        Check.due("six in the ROPE", six.count(3), 6);
        Check.due("LONG of six", six.count(4), 21);
        Check.due("at(5)", six.at(5), 0);
        Check.due("all have one", six.count(7), 63);
    }

    private static void unsplices() {
        HairRope x = Check.ropeOf(THREE);
        Check.due("unsplice() without ROPE", x.unsplice(), NONE);
        Check.due("nothing is done", x.count(9), 0);
        x.splice(2);
        x.splice(0);
        Check.due("unsplice()", x.unsplice(), 0);
        Check.due("its HAIR is gone", x.house(0, 0), 0);
        Check.due("its PLAIT is gone", x.house(0, 2), -2);
        Check.due("LONG", x.count(4), 4);
        Check.due("unsplice()", x.unsplice(), 2);
        Check.due("unsplice() without ROPE", x.unsplice(), NONE);
        Check.due("given stays", x.count(14), 2);
        Check.due("things done", x.count(9), 4);
    }

    private static void hauls() {
        HairRope x = Check.ropeOf(THREE, 0);
        Check.due("haul(0) not LONG enough", x.haul(0), NONE);
        x.splice(1);
        Check.due("LONG as the WELL is deep", x.count(12), 1);
        x.splice(2);
        for (int no : new int[] {-1, 1000, LEAST, GREATEST}) {
            Check.due("haul(" + no + ")", x.haul(no), NONE);
        }
        Check.due("nothing but three splices", x.count(9), 3);
        Check.due("haul(20)", x.haul(20), 3);
        Check.due("haul(0)", x.haul(0), 3);
        Check.due("drawn", x.count(5), 20);
        Check.due("haul(21) breaks the lowest", x.haul(21), 2);
        Check.due("haul(30)", x.haul(30), 2);
        Check.due("drawn", x.count(5), 50);
        Check.due("haul(999) breaks all", x.haul(999), 0);
        Check.due("no ROPE", x.count(3), 0);
        Check.due("haul(0) without ROPE", x.haul(0), NONE);
        Check.due("drawn", x.count(5), 50);
        Check.due("things done", x.count(9), 8);
    }

    private static void haulsThatBreakJoins() {
        String text = "house a 10 99; house b 10 99; house c 10 99; well 10; joins = if like < 3 then 15 else 60;";
        HairRope x = Check.ropeOf(text + "likes b c 2;", 0, 1, 2);
        Check.due("most()", x.most(), 5);
        Check.due("haul(6) breaks the lower JOIN", x.haul(6), 2);
        x.undo();
        Check.due("haul(41): both JOINS break, the upper one counts", x.haul(41), 1);
        x.undo();
        Check.due("haul(90): the top PLAIT breaks", x.haul(90), 0);
        x = Check.ropeOf(text + "likes b a 2;", 0, 1, 2);
        Check.due("haul(0): the upper JOIN bears 20", x.haul(0), 1);
        Check.due("haul(99) of one PLAIT", x.haul(99), 1);
        Check.due("haul(100) of one PLAIT", x.haul(100), 0);
        x = Check.ropeOf("house a 10 50; house b 10 30; well 10; joins = 40;", 0, 1);
        Check.due("haul(30) bears", x.haul(30), 2);
        Check.due("haul(31): JOIN above the PLAIT", x.haul(31), 1);
        Check.due("the upper one is left", x.at(0), 0);
    }

    private static void years() {
        HairRope x = Check.ropeOf(THREE, 0, 1, 2);
        Check.due("years(0)", x.years(0), 0);
        Check.due("years(0) is no thing done", x.count(9), 3);
        for (int no : new int[] {-1, 61, LEAST, GREATEST}) {
            Check.due("years(" + no + ")", x.years(no), NONE);
        }
        Check.due("years(1)", x.years(1), 1);
        int[][] want = {{1, 48}, {2, 27}, {3, 16}};
        for (int house = 0; house < 3; house++) {
            Check.due("HAIR of " + house, x.house(house, 0), want[house][0]);
            Check.due("STRONG of " + house, x.house(house, 4), want[house][1]);
        }
        Check.due("years(60)", x.years(60), 61);
        Check.due("one thing done", x.count(9), 5);
        Check.due("HAIR 61", x.house(0, 0), 61);
        Check.due("HAIR 99 at most", x.house(1, 0), 99);
        Check.due("STRONG 0 at least", x.house(0, 4), 0);
        Check.due("STRONG at first stays", x.house(0, 1), 50);
        // All by how it was as the YEAR began: WEAKENS by the HAIR ahead of its growing, GROWS by STRONG ahead of it.
        x = Check.ropeOf("house a 8 50; grows = strong; weakens = hair + 1;", 0);
        x.years(1);
        Check.due("STRONG by HAIR 0", x.house(0, 4), 49);
        Check.due("HAIR by STRONG 50", x.house(0, 0), 50);
        x.years(1);
        Check.due("STRONG by HAIR 50", x.house(0, 4), 0);
        Check.due("HAIR by STRONG 49", x.house(0, 0), 99);
        x = Check.ropeOf("house a 8 50; grows = year * 2 + 1;");
        x.years(3);
        Check.due("HAIR by the years 0, 1, 2", x.house(0, 0), 8 + 1 + 3 + 5);
    }

    private static void blights() {
        HairRope x = Check.ropeOf("house a 20 50; house b 9 50; blight 100; seed 77;", 1);
        x.years(1);
        Check.due("half", x.house(0, 0), 10);
        Check.due("no HAIR", x.house(1, 0), 0);
        Check.due("PLAITS weaken all the same", x.house(1, 4), 49);
        x.years(2);
        Check.due("half of half of it, rounded down", x.house(0, 0), 2);
        x = Check.ropeOf("house a 20 50; blight 0; seed 77;");
        x.years(5);
        Check.due("no BLIGHT", x.house(0, 0), 25);
        // LOT 100 of SEED 7: 9, 46, 24 for HOUSES 0, 1, 2 in the year 0; 2, 77, 22 in the year 1; 78, 62, 75 in the year 2.
        x = Check.ropeOf("house a 20 50; house b 20 50; house c 20 50; blight 24; seed 7;");
        x.years(1);
        Check.due("LOT 9 is less than 24", x.house(0, 0), 10);
        Check.due("LOT 46 is not", x.house(1, 0), 21);
        Check.due("LOT 24 is not", x.house(2, 0), 21);
        x.years(1);
        Check.due("LOT 2", x.house(0, 0), 5);
        Check.due("LOT 77", x.house(1, 0), 22);
        Check.due("LOT 22", x.house(2, 0), 10);
        x.years(1);
        Check.due("LOT 78", x.house(0, 0), 6);
        Check.due("LOT 62", x.house(1, 0), 23);
        Check.due("LOT 75", x.house(2, 0), 11);
        // LOT 100 of SEED 9999 in the year 0: 69, 47, 96.
        x = Check.ropeOf("house a 20 50; house b 20 50; house c 20 50; seed 9999; blight 70;");
        x.years(1);
        Check.due("LOT 69", x.house(0, 0), 10);
        Check.due("LOT 47", x.house(1, 0), 10);
        Check.due("LOT 96", x.house(2, 0), 21);
    }

    private static void undoes() {
        HairRope x = Check.ropeOf(THREE);
        Check.due("undo() of nothing", x.undo(), false);
        x.splice(0);
        x.splice(1);
        x.haul(5);
        x.haul(500);
        x.years(3);
        x.splice(2);
        x.unsplice();
        Check.due("things done", x.count(9), 7);
        x.most();
        x.orders(3);
        x.tell(0, 3, true);
        Check.due("things done", x.count(9), 7);
        Check.due("undo() of unsplice", x.undo(), true);
        Check.due("the PLAIT is back", x.house(2, 3), 4 + 9);
        Check.due("undo() of splice", x.undo(), true);
        Check.due("the HAIR is back", x.house(2, 0), 13);
        Check.due("given", x.house(2, 8), 0);
        Check.due("undo() of years", x.undo(), true);
        Check.due("year", x.count(2), 0);
        Check.due("HAIR", x.house(2, 0), 4);
        Check.due("undo() of a broken haul", x.undo(), true);
        Check.due("PLAITS", x.count(3), 2);
        Check.due("drawn", x.count(5), 5);
        Check.due("undo() of a haul", x.undo(), true);
        Check.due("drawn", x.count(5), 0);
        Check.due("undo()", x.undo(), true);
        Check.due("undo()", x.undo(), true);
        Check.due("undo() of nothing more", x.undo(), false);
        Check.due("HAIR of all", x.count(6), 20);
        Check.due("TOLD stays", x.count(10), 1);
    }

    private static void undoesForty() {
        HairRope x = Check.ropeOf("house a 1 9;");
        for (int i = 0; i < 45; i++) {
            x.years(1);
        }
        Check.due("40 at most", x.count(9), 40);
        for (int i = 0; i < 40; i++) {
            Check.due("undo() " + i, x.undo(), true);
            Check.due("year", x.count(2), 44 - i);
        }
        Check.due("undo() of the 41st", x.undo(), false);
        Check.due("year", x.count(2), 5);
        x.years(2);
        x.splice(0);
        Check.due("things done", x.count(9), 2);
        x.undo();
        x.undo();
        Check.due("year", x.count(2), 5);
    }

    private static void mostAndWeakest() {
        HairRope x = Check.ropeOf(THREE, 0, 1, 2);
        Check.due("most()", x.most(), 20);
        Check.due("weakest(0)", x.weakest(0), 2);
        Check.due("weakest(1)", x.weakest(1), 0);
        for (int no : new int[] {-1, 2, LEAST, GREATEST}) {
            Check.due("weakest(" + no + ")", x.weakest(no), NONE);
        }
        x.unsplice();
        Check.due("most() of two", x.most(), 30);
        Check.due("weakest(0)", x.weakest(0), 1);
        Check.due("weakest(1)", x.weakest(1), 0);
        // a bears 6 besides, its JOIN 6, b nothing: 14, 14, 14.
        x = Check.ropeOf("house a 10 20; house b 6 14; joins = 20; well 99;", 0, 1);
        Check.due("most() though not LONG enough", x.most(), 14);
        Check.due("weakest(0): the highest of alike ones", x.weakest(0), 0);
        Check.due("weakest(1)", x.weakest(1), 0);
        x = Check.ropeOf("house a 10 21; house b 6 14; joins = 20;", 0, 1);
        Check.due("weakest(0): the JOIN is higher than the PLAIT", x.weakest(0), 1);
        Check.due("weakest(1)", x.weakest(1), 1);
        x = Check.ropeOf("house a 10 21; house b 6 14; joins = 21;", 0, 1);
        Check.due("weakest(0)", x.weakest(0), 1);
        Check.due("weakest(1)", x.weakest(1), 0);
    }

    private static void mostEdges() {
        HairRope x = Check.ropeOf(THREE);
        Check.due("most() without ROPE", x.most(), 999);
        Check.due("weakest(0) without ROPE", x.weakest(0), -2);
        Check.due("weakest(1) without ROPE", x.weakest(1), -2);
        Check.due("weakest(2) without ROPE", x.weakest(2), NONE);
        x = Check.ropeOf("house a 10 20; house b 20 14; joins = 20;", 0, 1);
        Check.due("most() of 0", x.most(), 0);
        Check.due("weakest(0) of 0", x.weakest(0), 0);
        // The top bears 20 with 19; the JOIN bears just that.
        x = Check.ropeOf("house a 10 19; house b 20 14; joins = 20;", 0, 1);
        Check.due("most(): it breaks with 0", x.most(), -2);
        Check.due("weakest(0)", x.weakest(0), 0);
        Check.due("weakest(1)", x.weakest(1), 0);
        x = Check.ropeOf("house a 10 20; house b 20 14; joins = 19;", 0, 1);
        Check.due("most(): the JOIN breaks with 0", x.most(), -2);
        Check.due("weakest(0)", x.weakest(0), 1);
        Check.due("weakest(1)", x.weakest(1), 1);
        // The lower JOIN would break at 1, but at 0 it is the upper one alone.
        x = Check.ropeOf("house a 9 99; house b 9 99; house c 9 99; joins = if which < 1 then 10 else 9;", 0, 1, 2);
        Check.due("most()", x.most(), -2);
        Check.due("weakest(0) at 0", x.weakest(0), 1);
        Check.due("weakest(1) at 0", x.weakest(1), 1);
    }

    private static void mostOfSix() {
        String six = "house a 5 90; house b 5 89; house c 5 88; house d 5 87; house e 5 86; house f 5 99; well 30; ";
        HairRope x = Check.ropeOf(six + "joins = 999;", 0, 1, 2, 3, 4, 5);
        // They bear 65, 69, 73, 77, 81, 99.
        Check.due("most() of six", x.most(), 65);
        Check.due("haul(82) breaks the top", x.haul(82), 0);
        x = Check.ropeOf(six + "joins = if which < 4 then 999 else 50;", 0, 1, 2, 3, 4, 5);
        Check.due("most(): the lowest JOIN", x.most(), 45);
        Check.due("weakest(0)", x.weakest(0), 5);
        Check.due("weakest(1)", x.weakest(1), 1);
        Check.due("quarrel(0)", x.quarrel(0), 5);
        Check.due("haul(46)", x.haul(46), 5);
        x = Check.ropeOf(six.replace("f 5 99", "f 5 40") + "joins = 999;", 0, 1, 2, 3, 4, 5);
        Check.due("most(): the lowest PLAIT", x.most(), 40);
        Check.due("weakest(0)", x.weakest(0), 5);
        Check.due("weakest(1)", x.weakest(1), 0);
        Check.due("haul(41)", x.haul(41), 5);
    }

    private static void belows() {
        HairRope x = Check.ropeOf(THREE, 0, 1, 2);
        Check.due("below(0)", x.below(0), 10);
        Check.due("below(1)", x.below(1), 4);
        Check.due("below(2)", x.below(2), 0);
        for (int no : new int[] {-1, 3, 6, LEAST, GREATEST}) {
            Check.due("below(" + no + ")", x.below(no), NONE);
        }
    }

    private static void shares() {
        HairRope x = Check.ropeOf(THREE);
        Check.due("share(0) without ROPE", x.share(0), 0);
        x.splice(0);
        Check.due("share(0) alone", x.share(0), 1000);
        x.splice(1);
        Check.due("share(0)", x.share(0), 625);
        Check.due("share(1)", x.share(1), 375);
        Check.due("share(2) without PLAIT", x.share(2), 0);
        x = Check.ropeOf("house a 1 9; house b 2 9;", 0, 1);
        Check.due("a third, rounded down", x.share(0), 333);
        Check.due("two thirds, rounded down", x.share(1), 666);
        for (int no : new int[] {-1, 2, 6, LEAST, GREATEST}) {
            Check.due("share(" + no + ")", x.share(no), NONE);
        }
    }

    private static void quarrelsAndGreyest() {
        HairRope x = Check.ropeOf(THREE);
        for (int what = 0; what < 2; what++) {
            Check.due("quarrel(" + what + ") without ROPE", x.quarrel(what), -2);
            Check.due("greyest(" + what + ") without ROPE", x.greyest(what), -2);
        }
        x.splice(0);
        Check.due("quarrel(0) of one PLAIT", x.quarrel(0), -2);
        Check.due("greyest(0) of one PLAIT", x.greyest(0), 0);
        Check.due("greyest(1) of one PLAIT", x.greyest(1), 50);
        x.splice(1);
        x.splice(2);
        Check.due("quarrel(0)", x.quarrel(0), 2);
        Check.due("quarrel(1)", x.quarrel(1), 35);
        Check.due("greyest(0)", x.greyest(0), 2);
        Check.due("greyest(1)", x.greyest(1), 20);
        for (int no : new int[] {-1, 2, LEAST, GREATEST}) {
            Check.due("quarrel(" + no + ")", x.quarrel(no), NONE);
            Check.due("greyest(" + no + ")", x.greyest(no), NONE);
        }
        x = Check.ropeOf("house a 9 30; house b 9 20; house c 9 20; joins = 7;", 0, 1, 2);
        Check.due("quarrel(0): the highest of alike ones", x.quarrel(0), 1);
        Check.due("greyest(0): the highest of alike ones", x.greyest(0), 1);
        HairRope none = Check.ropeOf("");
        Check.due("quarrel(5) of none", none.quarrel(5), NONE);
        Check.due("greyest(5) of none", none.greyest(5), NONE);
    }

    private static void holds() {
        HairRope x = Check.ropeOf(THREE, 0, 1);
        Check.due("restore(0) of nothing held", x.restore(0), false);
        Check.due("undo stays", x.count(9), 2);
        for (int no : new int[] {-1, 3, LEAST, GREATEST}) {
            Check.due("hold(" + no + ")", x.hold(no), false);
            Check.due("restore(" + no + ")", x.restore(no), false);
        }
        x.haul(9);
        Check.due("hold(2)", x.hold(2), true);
        Check.due("SLOTS", x.count(11), 1);
        Check.due("hold is no thing done", x.count(9), 3);
        x.tell(1, 7, false);
        Check.feed(x, "wel");
        x.years(7);
        x.splice(2);
        Check.due("hold(0)", x.hold(0), true);
        Check.due("SLOTS", x.count(11), 2);
        x.haul(999);
        Check.due("restore(2)", x.restore(2), true);
        int[] want = {3, 16, 0, 2, 16, 9, 4, 3, 3, 0, 1, 2, 1, 12, 2, 3, 80};
        for (int what = 0; what < want.length; what++) {
            Check.due("count(" + what + ") as held", x.count(what), want[what]);
        }
        Check.due("undo()", x.undo(), false);
        x.unsplice();
        Check.due("restore(2) again", x.restore(2), true);
        Check.due("PLAITS", x.count(3), 2);
        Check.due("restore(0)", x.restore(0), true);
        Check.due("year", x.count(2), 7);
        Check.due("hold(2) anew", x.hold(2), true);
        Check.due("SLOTS", x.count(11), 2);
        x.unsplice();
        Check.due("undo()", x.undo(), true);
        Check.due("restore(2)", x.restore(2), true);
        Check.due("PLAITS", x.count(3), 3);
        Check.due("restore(1) of nothing held", x.restore(1), false);
        x.hold(1);
        Check.due("SLOTS", x.count(11), 3);
    }

    private static void counts() {
        HairRope x = Check.ropeOf(THREE + "house d 0 9;", 1, 0);
        x.haul(7);
        x.years(1);
        Check.feed(x, "house");
        x.tell(0, 1, true);
        x.tell(0, 2, true);
        x.hold(0);
        // HAIR 1, 2, 7, 4; the ROPE is b (28 of STRONG), a (47).
        int[] want = {4, 16, 1, 2, 16, 7, 14, 3, 5, 4, 2, 1, 1, 12, 2, 0, 75};
        for (int what = 0; what < want.length; what++) {
            Check.due("count(" + what + ")", x.count(what), want[what]);
        }
        for (int no : new int[] {-1, 17, LEAST, GREATEST}) {
            Check.due("count(" + no + ")", x.count(no), NONE);
        }
        x.splice(3);
        x.splice(2);
        Check.due("HOUSES of HAIR 0", x.count(15), 12);
        Check.due("HOUSES with a PLAIT", x.count(7), 15);
        x.unsplice();
        x.unsplice();
        x.unsplice();
        Check.due("not LONG enough", x.count(12), 0);
        Check.due("given", x.count(14), 4);
    }
}
