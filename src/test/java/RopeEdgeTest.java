/** The edges that the document names of LAWS, YEARS and hauls: the Terms' second part, promises 6 to 14 and 38 to 40. */
public final class RopeEdgeTest {
    private static final int NONE = HairRope.NONE;
    private static final int NOT = -2;
    private static final String THREE = "house a 10 50;house b 6 30;house c 4 20;";
    private static final String SIX = "house a 1 11;house b 2 12;house c 3 13;house d 4 14;house e 5 15;house f 6 16;";

    public static void main(String[] args) {
        hairBounds();
        ropeOfUnlikeHouses();
        lawsFirstThatHolds();
        lawsWrap();
        lawsRoundTowards0();
        lawsDividedBy0();
        lawsLookAtAHouse();
        lawsLookAtTwo();
        lawsHeld();
        lots();
        bearsAtPlaits();
        bearsAtJoins();
        yearAsItBegan();
        yearGrows();
        yearBlight();
        yearWeakens();
        yearIsNext();
        givesByHand();
        unspliceByHand();
        haulLongEnough();
        haulBreaksNowhere();
        haulBreaksHighest();
        haulNothingDrawn();
        house();
        houseNone();
        likes();
        joins();
        at();
        splice();
        spliceRefused();
        unsplice();
        haul();
        haulRefused();
        years();
        yearsRefused();
        undo();
        undoForty();
        hold();
        holdWhat();
        restore();
        restoreRefused();
        counts();
        countNone();
        calls512();
        Check.end();
    }

    // ---- the Terms

    private static void hairBounds() {
        Check.by(Check.TERMS, "A HOUSE has HAIR 0 .. 99");
        HairRope x = Check.ropeOf("house a 20 9;house b 0 9;grows = which * 0 + 79;");
        x.years(1);
        Check.due("HAIR 99", x.house(0, 0), 99);
        Check.due("HAIR 79", x.house(1, 0), 79);
        x.years(1);
        Check.due("HAIR of 99 grows no more", x.house(0, 0), 99);
        Check.due("HAIR of 79 and 79", x.house(1, 0), 99);
        Check.due("splice(0)", x.splice(0), 99);
        Check.due("HAIR 0", x.house(0, 0), 0);
        Check.due("a PLAIT 99 LONG", x.house(0, 3), 99);
        Check.by(Check.TERMS, "and a PLAIT in the ROPE, or not: how LONG, how STRONG it is.");
        int[] with = {0, 99, 9};
        int[] without = {NOT, 0, 0};
        for (int what = 2; what <= 4; what++) {
            Check.due("house(0, " + what + ") with a PLAIT", x.house(0, what), with[what - 2]);
            Check.due("house(1, " + what + ") without", x.house(1, what), without[what - 2]);
        }
    }

    private static void ropeOfUnlikeHouses() {
        Check.by(Check.TERMS, "The ROPE: PLAITS, of unlike HOUSES, from the top place (0) down.");
        HairRope x = Check.ropeOf(SIX, 3, 5, 0, 4, 2, 1);
        int[] whose = {3, 5, 0, 4, 2, 1};
        for (int place = 0; place < 6; place++) {
            Check.due("at(" + place + ")", x.at(place), whose[place]);
            Check.due("the place of " + whose[place], x.house(whose[place], 2), place);
        }
        x.years(1);
        for (int house = 0; house < 6; house++) {
            Check.due("splice(" + house + ") once more", x.splice(house), NONE);
        }
        Check.due("PLAITS", x.count(3), 6);
    }

    /** What COSTS of HOUSE 0 (HAIR 10, STRONG 50) are by a LAW. */
    private static void costs(String law, int want) {
        Check.due(law, Check.ropeOf(THREE + "costs=" + law + ";").house(0, 7), want);
    }

    private static void lawsFirstThatHolds() {
        Check.by(Check.TERMS, "LAWS: the E of the first if that holds (one less than the other), else the last one");
        costs("if 1 < 2 then 3 else 4", 3);
        costs("if 2 < 2 then 3 else 4", 4);
        costs("if 3 < 2 then 3 else 4", 4);
        costs("if 0 - 1 < 0 then 3 else 4", 3);
        costs("if 0 < 0 - 1 then 3 else 4", 4);
        costs("if hair < 11 then 3 else 4", 3);
        costs("if hair < 10 then 3 else 4", 4);
        costs("if 1 < 2 then 3 else if 1 < 2 then 5 else 6", 3);
        costs("if 2 < 1 then 3 else if 1 < 2 then 5 else 6", 5);
        costs("if 2 < 1 then 3 else if 2 < 1 then 5 else 6", 6);
        String no = "if 2 < 1 then 3 else ";
        costs(no + no + no + "if 1 < 2 then 7 else 8", 7);
        costs(no + no + no + no + "8", 8);
        costs("7", 7);
        // The least int is less than the greatest, though taking one from the other wraps.
        costs("if 8192 * 8192 * 32 < 8192 * 8192 * 32 - 1 then 3 else 4", 3);
        costs("if 8192 * 8192 * 32 - 1 < 8192 * 8192 * 32 then 3 else 4", 4);
        costs("2 + 3 * 4 - 10 / 5", 12);
        costs("(2 + 3) * (4 - 10 / 5)", 10);
        costs("20 - 3 - 2", 15);
        costs("80 / 4 / 2", 10);
        costs("9 - 8 / 4 * 2", 5);
        String deep = "1 + 1 * (1 + 1 * (1 + 1 * (1 + 1 * (1 + 1 * (1 + 1 * (1 + 1 * 2))))))";
        costs("if " + deep + " < 1 + " + deep + " then " + deep + " else 0", 9);
        costs("if 0 + " + deep + " < " + deep + " then 0 else " + deep, 9);
    }

    private static void lawsWrap() {
        Check.by(Check.TERMS, "ints of 32 bits that wrap");
        // 8192 * 8192 * 32 is the least int, 8192 * 8192 * 64 is 0.
        costs("8192 * 8192 * 64 + 9", 9);
        costs("8192 * 8192 * 63 / 8192 / 8192 + 9", 8);
        costs("if 8192 * 8192 * 32 < 0 then 3 else 4", 3);
        costs("if 8192 * 8192 * 32 - 1 < 0 then 3 else 4", 4);
        costs("if 8192 * 8192 * 32 - 1 + 1 < 0 then 3 else 4", 3);
        costs("if 0 - 8192 * 8192 * 32 < 0 then 3 else 4", 3);
        costs("if 8192 * 8192 * 32 / (0 - 1) < 0 then 3 else 4", 3);
        costs("8192 * 8192 * 32 / (0 - 1) / 8192 / 8192 + 40", 8);
        costs("if 9999 * 9999 * 9999 < 0 then 3 else 4", 3);
        costs("9999 * 9999 * 9999 + 8192 * 8192 * 15 + 9999 * 2075 + 9999 - 9999", 99);
        costs("0 - 9999 * 9999 * 9999 / 9999 / 9999", 10);
        HairRope x = Check.ropeOf(THREE + "joins=8192 * 8192 * 64 + 777;grows=8192 * 8192 * 64 + 5;weakens=8192 * 8192 * 64 + 6;");
        Check.due("JOINS that wrap", x.joins(0, 1), 777);
        Check.due("GROWS that wrap", x.house(0, 5), 5);
        Check.due("WEAKENS that wrap", x.house(0, 6), 6);
    }

    private static void lawsRoundTowards0() {
        Check.by(Check.TERMS, "/ rounded towards 0");
        costs("7 / 2", 3);
        costs("50 + (0 - 7) / 2", 47);
        costs("50 + 7 / (0 - 2)", 47);
        costs("50 + (0 - 7) / (0 - 2)", 53);
        costs("50 + (0 - 1) / 2", 50);
        costs("50 + (0 - 8) / 2", 46);
        costs("1 / 2 * 2 + 5", 5);
        costs("9 / 10 + 5", 5);
        costs("0 / 5 + 6", 6);
    }

    private static void lawsDividedBy0() {
        Check.by(Check.TERMS, "a LAW in which something that is looked at is divided by 0 is 0");
        costs("5 / 0", 0);
        costs("0 / 0", 0);
        costs("7 + 5 / 0", 0);
        costs("7 + 0 * (5 / 0)", 0);
        costs("7 + 5 / (hair - 10)", 0);
        costs("5 / 0 + 7", 0);
        costs("8192 * 8192 * 32 / 0 + 7", 0);
        costs("if 1 / 0 < 5 then 3 else 4", 0);
        costs("if 5 < 1 / 0 then 3 else 4", 0);
        costs("if 1 < 2 then 1 / 0 else 4", 0);
        costs("if 2 < 1 then 3 else 1 / 0", 0);
        costs("if 2 < 1 then 3 else if 1 / 0 < 1 then 4 else 5", 0);
        // What is not looked at may be divided by 0.
        costs("if 1 < 2 then 3 else 1 / 0", 3);
        costs("if 2 < 1 then 1 / 0 else 4", 4);
        costs("if 1 < 2 then 3 else if 1 / 0 < 1 then 4 else 5", 3);
        costs("if 2 < 1 then 1 / 0 else if 1 < 2 then 5 else 1 / 0", 5);
        HairRope x = Check.ropeOf(THREE + "grows=7 + 1 / year;weakens=7 + 1 / place;joins=7 + like / (like - 5);", 0, 1);
        Check.due("GROWS in the year 0", x.house(0, 5), 0);
        Check.due("WEAKENS at place 0", x.house(0, 6), 0);
        Check.due("WEAKENS at place 1", x.house(1, 6), 8);
        Check.due("JOINS by LIKES of 5", x.joins(0, 1), 0);
        x.years(1);
        Check.due("GROWS in the year 1", x.house(0, 5), 8);
        Check.due("it did not grow in the year 0", x.house(2, 0), 4);
        Check.due("it did not weaken at place 0", x.house(0, 4), 50);
        Check.due("it weakened at place 1", x.house(1, 4), 22);
    }

    private static void lawsLookAtAHouse() {
        Check.by(Check.TERMS, "Of a HOUSE: hair; strong: its PLAIT's, without one as told at first; like: 0; year; place: that of its PLAIT"
            + " (without one: 0); which: its number; spliced: how many PLAITS the ROPE has; given: how often it gave one so far; other: 0.");
        String[] vars = {"hair", "strong", "like", "year", "place", "which", "spliced", "given", "other"};
        // Of b: at first; with its PLAIT at place 2; 3 YEARS later; unspliced; given anew, at place 1 after another was unspliced.
        int[][] want = {{6, 30, 0, 0, 0, 1, 0, 0, 0}, {0, 30, 0, 0, 2, 1, 3, 1, 0}, {3, 27, 0, 3, 2, 1, 3, 1, 0},
            {3, 30, 0, 3, 0, 1, 2, 1, 0}, {0, 30, 0, 3, 1, 1, 2, 2, 0}};
        for (int i = 0; i < vars.length; i++) {
            for (String law : new String[] {"grows", "weakens", "costs"}) {
                int what = law.equals("grows") ? 5 : law.equals("weakens") ? 6 : 7;
                // So much more that an odd number below 0 is seen, too; GROWS and WEAKENS are 1 until they are asked.
                HairRope x = Check.ropeOf(THREE + "likes a b 9;likes b c 8;" + (what == 7 ? "costs=" + vars[i] + "+9;" : ""));
                HairRope y = what == 7 ? x : Check.ropeOf(THREE + "likes a b 9;likes b c 8;" + law + "=" + vars[i] + "+9;");
                Check.due(law + " by " + vars[i] + " at first", y.house(1, what), want[0][i] + 9);
                if (what != 7) {
                    continue;
                }
                x.splice(0);
                x.splice(2);
                x.splice(1);
                Check.due(vars[i] + " once spliced", x.house(1, 7), want[1][i] + 9);
                x.years(3);
                Check.due(vars[i] + " 3 YEARS later", x.house(1, 7), want[2][i] + 9);
                x.unsplice();
                Check.due(vars[i] + " once unspliced", x.house(1, 7), want[3][i] + 9);
                x.unsplice();
                x.splice(1);
                Check.due(vars[i] + " once given anew", x.house(1, 7), want[4][i] + 9);
            }
        }
        HairRope x = Check.ropeOf(THREE + "costs=like*10+other+3;");
        x.joins(0, 1);
        x.peace(99, 0);
        Check.due("like and other behind JOINS", x.house(0, 7), 3);
    }

    private static void lawsLookAtTwo() {
        Check.by(Check.TERMS, "JOINS of two HOUSES, the first above: of the first one, but like: LIKES of both; other: strong of the second.");
        String[] vars = {"hair", "strong", "like", "year", "place", "which", "spliced", "given", "other"};
        // Of b above a: at first; with c, b, a in the ROPE, 3 YEARS later; of c above b, and of a above c.
        int[] atFirst = {6, 30, 8, 0, 0, 1, 0, 0, 50};
        int[] later = {3, 27, 8, 3, 1, 1, 3, 1, 47};
        int[] cAboveB = {3, 17, 5, 3, 0, 2, 3, 1, 27};
        int[] unspliced = {3, 27, 8, 3, 1, 1, 2, 1, 50};
        for (int i = 0; i < vars.length; i++) {
            HairRope x = Check.ropeOf(THREE + "likes a b 8;joins=" + vars[i] + "+9;");
            Check.due(vars[i] + " at first", x.joins(1, 0), atFirst[i] + 9);
            x.splice(2);
            x.splice(1);
            x.splice(0);
            x.years(3);
            Check.due(vars[i] + " in the ROPE", x.joins(1, 0), later[i] + 9);
            Check.due(vars[i] + " of others in the ROPE", x.joins(2, 1), cAboveB[i] + 9);
            x.unsplice();
            Check.due(vars[i] + " once the second one is unspliced", x.joins(1, 0), unspliced[i] + 9);
        }
    }

    private static void lawsHeld() {
        Check.by(Check.TERMS, "GROWS, WEAKENS, COSTS held to 0 .. 99, JOINS to 0 .. 999.");
        String[] laws = {"0 - 1", "0", "1", "98", "99", "100", "998", "999", "1000", "9999", "8192 * 8192 * 32", "8192 * 8192 * 32 - 1"};
        int[] small = {0, 0, 1, 98, 99, 99, 99, 99, 99, 99, 0, 99};
        int[] great = {0, 0, 1, 98, 99, 100, 998, 999, 999, 999, 0, 999};
        for (int i = 0; i < laws.length; i++) {
            HairRope x = Check.ropeOf(THREE + "grows=" + laws[i] + ";weakens=" + laws[i] + ";costs=" + laws[i] + ";joins=" + laws[i] + ";");
            for (int what = 5; what <= 7; what++) {
                Check.due("house(0, " + what + ") of " + laws[i], x.house(0, what), small[i]);
            }
            Check.due("joins(0, 1) of " + laws[i], x.joins(0, 1), great[i]);
        }
        // LIKES of 9 by 1,000 is more than 999; untold JOINS and COSTS stay below.
        HairRope x = Check.ropeOf("house a 20 9;house b 20 9;likes a b 9;");
        Check.due("JOINS untold", x.joins(0, 1), 90);
        Check.due("COSTS untold", x.house(0, 7), 20);
        x.years(60);
        x.years(60);
        Check.due("COSTS untold of HAIR 99", x.house(0, 7), 99);
    }

    private static void lots() {
        Check.by(Check.TERMS, "LOT n of a SEED and a which: h is the SEED; for each of 219, which: h becomes (h and it, each bit of which is"
            + " in just one) times 1103515245 and 12345 more, then h and h moved 15 bits down (zeros come in), likewise;"
            + " the rest of h, moved 1 bit down likewise, by n (32 bits that wrap).");
        // LOT 100 of SEEDS and 8 * the year and the number, reckoned apart from this program.
        int[][] first = {{0, 69, 10, 79, 82, 78, 41}, {1, 90, 25, 94, 51, 97, 2}, {2, 35, 4, 32, 52, 56, 19}, {3, 3, 70, 97, 14, 66, 79},
            {7, 9, 46, 24, 29, 14, 22}, {9999, 69, 47, 96, 41, 57, 74}};
        for (int[] f : first) {
            for (int house = 0; house < 6; house++) {
                lot(f[0], 0, house, f[house + 1]);
            }
        }
        int[][] later = {{7, 1, 0, 2}, {7, 1, 1, 77}, {7, 2, 5, 97}, {7, 3, 1, 8}, {7, 60, 1, 1}, {7, 61, 2, 1}, {7, 61, 4, 85},
            {0, 1, 5, 4}, {2, 3, 5, 1}, {9999, 3, 4, 23}, {7, 1000, 5, 23}, {7, 1000, 4, 80}};
        for (int[] l : later) {
            lot(l[0], l[1], l[2], l[3]);
        }
    }

    /** That a LOT is as told: with a BLIGHT of as much the HAIR grows, with one of 1 more it is half. */
    private static void lot(int seed, int year, int house, int lot) {
        String text = SIX + "grows=if year<" + year + " then 0 else 1;seed " + seed + ";blight ";
        if (year > 0) {
            // No HAIR is lost ahead of that year: it comes back to 99.
            text = text.replace("then 0 else 1", "then 99 else 99");
        }
        for (int more = 0; more <= 1; more++) {
            HairRope x = Check.ropeOf(text + (lot + more) + ";");
            int gone = 0;
            while (gone < year) {
                int step = Math.min(60, year - gone);
                x.years(step);
                gone += step;
            }
            int hair = x.house(house, 0);
            int grown = year > 0 ? 99 : hair + 1;
            Check.due("HAIR by a LOT of " + lot + ", BLIGHT " + (lot + more) + ", SEED " + seed + ", year " + year + ", HOUSE " + house,
                x.then(house, 1, 0), more == 1 ? hair / 2 : grown);
        }
    }

    private static void bearsAtPlaits() {
        Check.by(Check.TERMS, "A PLAIT bears, at a haul of w, w and LONG of all PLAITS below it, added");
        // a bears 10 besides, b 4, c nothing.
        int[][] strong = {{50, 30, 20, 20, 2}, {30, 30, 30, 20, 0}, {29, 30, 30, 19, 0}, {31, 24, 30, 20, 1}, {31, 23, 30, 19, 1}, {99, 99, 21, 21, 2}};
        for (int[] s : strong) {
            HairRope x = Check.ropeOf("house a 10 " + s[0] + ";house b 6 " + s[1] + ";house c 4 " + s[2] + ";joins=999;well 20;", 0, 1, 2);
            Check.due("most()", x.most(), s[3]);
            Check.due("haul of as much as it bears", x.haul(s[3]), 3);
            Check.by(Check.TERMS, "It BREAKS there if a PLAIT bears more than it is STRONG, a JOIN more than JOINS tells.");
            Check.due("haul of 1 more", x.haul(s[3] + 1), s[4]);
        }
    }

    private static void bearsAtJoins() {
        Check.by(Check.TERMS, "the JOIN of two that are one upon the other bears as much as the lower one's PLAIT with its own LONG besides");
        // The upper JOIN bears 10 besides, the lower one 4.
        int[][] joins = {{50, 40, 36, 2}, {40, 60, 30, 1}, {46, 40, 36, 1}, {45, 40, 35, 1}, {47, 40, 36, 2}, {10, 99, 0, 1}, {14, 4, 0, 2}};
        for (int[] j : joins) {
            String text = "house a 10 99;house b 6 99;house c 4 99;well 20;joins=if which<1 then " + j[0] + " else " + j[1] + ";";
            HairRope x = Check.ropeOf(text, 0, 1, 2);
            Check.due("most() of JOINS " + j[0] + ", " + j[1], x.most(), j[2]);
            Check.due("haul of as much as it bears", x.haul(j[2]), 3);
            Check.due("haul of 1 more", x.haul(j[2] + 1), j[3]);
        }
        // LIKES of others than those one upon the other do not matter.
        HairRope x = Check.ropeOf(THREE + "likes a c 0;likes a b 9;likes b c 9;well 20;", 0, 1, 2);
        Check.due("most()", x.most(), 20);
    }

    private static void yearAsItBegan() {
        Check.by(Check.TERMS, "A YEAR, all by how it was as it began");
        HairRope x = Check.ropeOf("house a 8 50;house b 8 50;grows=strong;weakens=hair+1;", 0);
        x.years(1);
        Check.due("STRONG by HAIR 0", x.house(0, 4), 49);
        Check.due("HAIR by STRONG 50", x.house(0, 0), 50);
        Check.due("HAIR of b by STRONG 50", x.house(1, 0), 58);
        x.years(1);
        Check.due("STRONG by HAIR 50", x.house(0, 4), 0);
        Check.due("HAIR by STRONG 49", x.house(0, 0), 99);
        x = Check.ropeOf("house a 8 50;house b 8 50;grows=year*10;weakens=year*10;", 0);
        x.years(1);
        Check.due("GROWS of the year 0", x.house(1, 0), 8);
        Check.due("WEAKENS of the year 0", x.house(0, 4), 50);
        x.years(2);
        Check.due("GROWS of the years 1 and 2", x.house(1, 0), 38);
        Check.due("WEAKENS of the years 1 and 2", x.house(0, 4), 20);
    }

    private static void yearGrows() {
        Check.by(Check.TERMS, "HAIR of each HOUSE is GROWS more (99 at most)");
        for (int grows = 77; grows <= 99; grows++) {
            HairRope x = Check.ropeOf("house a 20 50;house b 0 50;house c 1 50;grows=" + grows + ";", 2);
            x.years(1);
            Check.due("HAIR 20 and " + grows, x.house(0, 0), Math.min(99, 20 + grows));
            Check.due("HAIR 0 and " + grows, x.house(1, 0), grows);
            Check.due("HAIR of one with a PLAIT", x.house(2, 0), grows);
            Check.due("its PLAIT grows not", x.house(2, 3), 1);
        }
        HairRope x = Check.ropeOf("house a 20 50;grows=0;");
        x.years(60);
        Check.due("GROWS 0", x.house(0, 0), 20);
    }

    private static void yearBlight() {
        Check.by(Check.TERMS, "but for whom LOT 100 of the SEED and 8 * the year and its number is less than BLIGHT: it is half, rounded down");
        for (int hair = 0; hair <= 20; hair++) {
            HairRope x = Check.ropeOf("house a " + hair + " 50;blight 100;");
            x.years(1);
            Check.due("half of " + hair, x.house(0, 0), hair / 2);
        }
        // Of SEED 7 the LOTS are 9, 46, 24 in the year 0, and 2, 77, 22 in the year 1.
        HairRope x = Check.ropeOf("house a 20 50;house b 20 50;house c 19 50;blight 24;seed 7;");
        x.years(1);
        int[] want = {10, 21, 20};
        for (int house = 0; house < 3; house++) {
            Check.due("HAIR of " + house + ", BLIGHT 24", x.house(house, 0), want[house]);
        }
        x = Check.ropeOf("house a 20 50;house b 20 50;house c 19 50;blight 25;seed 7;");
        x.years(2);
        want = new int[] {5, 22, 4};
        for (int house = 0; house < 3; house++) {
            Check.due("HAIR of " + house + ", BLIGHT 25, 2 YEARS", x.house(house, 0), want[house]);
        }
        x = Check.ropeOf("house a 20 50;grows=79;");
        x.years(1);
        Check.due("HAIR 99", x.house(0, 0), 99);
        x = Check.ropeOf("house a 20 50;grows=79;blight 3;seed 7;");
        x.years(2);
        Check.due("half of HAIR 99", x.house(0, 0), 49);
    }

    private static void yearWeakens() {
        Check.by(Check.TERMS, "each PLAIT in the ROPE is WEAKENS less STRONG (0 at least)");
        int[][] strong = {{6, 1}, {5, 0}, {4, 0}, {1, 0}, {99, 94}};
        for (int[] s : strong) {
            HairRope x = Check.ropeOf("house a 9 " + s[0] + ";house b 9 " + s[0] + ";weakens=5;blight 100;", 0);
            x.years(1);
            Check.due("STRONG " + s[0] + ", 5 less", x.house(0, 4), s[1]);
            Check.due("as told at first", x.house(0, 1), s[0]);
            Check.due("without PLAIT", x.house(1, 4), 0);
            x.splice(1);
            Check.due("who gives later is STRONG as told at first", x.house(1, 4), s[0]);
        }
        HairRope x = Check.ropeOf("house a 9 50;weakens=0;", 0);
        x.years(60);
        Check.due("WEAKENS 0", x.house(0, 4), 50);
    }

    private static void yearIsNext() {
        Check.by(Check.TERMS, "II. YEARS are counted on.");
        Check.by(Check.TERMS, "It is the next year.");
        HairRope x = Check.ropeOf("house a 9 50;costs=year;");
        for (int year = 1; year <= 5; year++) {
            Check.due("years(1)", x.years(1), year);
            Check.due("count(2)", x.count(2), year);
            Check.due("the LAWS' year", x.house(0, 7), year);
        }
    }

    private static void givesByHand() {
        Check.by(Check.TERMS, "By hand: a HOUSE without PLAIT, of HAIR 1 or more, gives all its HAIR (then 0): the PLAIT, LONG as that,"
            + " STRONG as told at first, is spliced to the lower end");
        HairRope x = Check.ropeOf("house a 1 50;house b 0 40;house c 20 99;");
        Check.due("splice of HAIR 1", x.splice(0), 1);
        Check.due("splice of HAIR 0", x.splice(1), NONE);
        Check.due("splice of HAIR 20", x.splice(2), 21);
        Check.due("HAIR is 0", x.house(2, 0), 0);
        Check.due("LONG", x.house(2, 3), 20);
        Check.due("STRONG", x.house(2, 4), 99);
        Check.due("at the lower end", x.house(2, 2), 1);
        x.years(1);
        Check.due("splice of HAIR 1 by now", x.splice(1), 22);
        Check.due("at the lower end", x.house(1, 2), 2);
        Check.due("splice with a PLAIT and HAIR", x.splice(0), NONE);
    }

    private static void unspliceByHand() {
        Check.by(Check.TERMS, "the lowest PLAIT is unspliced and gone");
        HairRope x = Check.ropeOf(THREE, 1, 0);
        Check.due("unsplice()", x.unsplice(), 0);
        Check.due("its HAIR comes not back", x.house(0, 0), 0);
        Check.due("no place", x.house(0, 2), NOT);
        Check.due("how LONG", x.house(0, 3), 0);
        Check.due("how STRONG", x.house(0, 4), 0);
        Check.due("the ROPE", x.count(4), 6);
        Check.due("splice(0) without HAIR", x.splice(0), NONE);
    }

    private static void haulLongEnough() {
        Check.by(Check.TERMS, "a haul of w: a ROPE less LONG, all PLAITS added, than the WELL is deep can not be let down");
        for (int well = 14; well <= 18; well++) {
            HairRope x = Check.ropeOf(THREE + "well " + well + ";", 0, 1);
            Check.due("count(12), WELL " + well, x.count(12), well <= 16 ? 1 : 0);
            Check.due("haul(3), WELL " + well, x.haul(3), well <= 16 ? 2 : NONE);
            Check.due("drawn", x.count(5), well <= 16 ? 3 : 0);
            Check.due("things done", x.count(9), well <= 16 ? 3 : 2);
        }
    }

    private static void haulBreaksNowhere() {
        Check.by(Check.TERMS, "if it BREAKS nowhere, w is drawn");
        HairRope x = Check.ropeOf(THREE + "well 1;joins=999;", 0, 1, 2);
        Check.due("haul(0)", x.haul(0), 3);
        Check.due("drawn", x.count(5), 0);
        Check.due("haul(20)", x.haul(20), 3);
        Check.due("haul(1)", x.haul(1), 3);
        Check.due("drawn", x.count(5), 21);
        Check.due("nobody's PLAIT is less LONG or STRONG", x.count(4) * 1000 + x.count(16), 20100);
    }

    private static void haulBreaksHighest() {
        Check.by(Check.TERMS, "else it does so at the highest of all that BREAK (the JOIN above a PLAIT is higher than that PLAIT):"
            + " of a JOIN all PLAITS below it are gone, of a PLAIT it and all below");
        String text = "house a 10 %d;house b 6 %d;house c 4 %d;well 20;joins=if which<1 then %d else %d;";
        // STRONG of a, b, c, the upper JOIN, the lower one; a haul of 30 bears 40, 34, 30, 40, 34. Behind it so many are left.
        int[][] ropes = {{40, 34, 30, 40, 34, 3}, {39, 34, 30, 40, 34, 0}, {40, 34, 30, 39, 34, 1}, {40, 33, 30, 40, 34, 1},
            {40, 34, 30, 40, 33, 2}, {40, 34, 29, 40, 34, 2}, {39, 33, 29, 39, 33, 0}, {40, 33, 29, 39, 33, 1}, {40, 33, 29, 40, 33, 1},
            {40, 34, 29, 40, 33, 2}, {39, 34, 29, 40, 34, 0}, {40, 34, 1, 0, 34, 1}, {40, 1, 30, 40, 0, 1}};
        for (int[] r : ropes) {
            HairRope x = Check.ropeOf(String.format(text, r[0], r[1], r[2], r[3], r[4]), 0, 1, 2);
            Check.due("haul(30)", x.haul(30), r[5]);
            Check.due("PLAITS", x.count(3), r[5]);
            for (int place = 0; place < 3; place++) {
                Check.due("at(" + place + ")", x.at(place), place < r[5] ? place : NONE);
                Check.due("HAIR of " + place + " comes not back", x.house(place, 0), 0);
                Check.due("STRONG of " + place, x.house(place, 4), place < r[5] ? r[place] : 0);
            }
        }
    }

    private static void haulNothingDrawn() {
        Check.by(Check.TERMS, "nothing is drawn; YEARS go by.");
        HairRope x = Check.ropeOf(THREE + "well 10;", 0, 1);
        x.haul(9);
        x.haul(31);
        Check.due("the lower one broke", x.count(3), 1);
        Check.due("drawn", x.count(5), 9);
        Check.due("it is a thing done", x.count(9), 4);
        Check.due("YEARS", x.years(3), 3);
        Check.due("drawn", x.count(5), 9);
    }

    // ---- promises 6 to 14

    private static void house() {
        Check.by(6, "Of a HOUSE: what 0 HAIR, 1 STRONG at first, 2 the place of its PLAIT (-2: none), 3 how LONG, 4 how STRONG it is"
            + " (without: 0), 5 GROWS, 6 WEAKENS, 7 COSTS now, 8 how often it gave.");
        HairRope x = Check.ropeOf(THREE + "grows=which+2;weakens=place+3;costs=hair*2+given;", 2, 0);
        x.years(1);
        int[][] want = {{2, 50, 1, 10, 46, 2, 4, 5, 1}, {9, 30, NOT, 0, 0, 3, 3, 18, 0}, {4, 20, 0, 4, 17, 4, 3, 9, 1}};
        for (int house = 0; house < 3; house++) {
            for (int what = 0; what <= 8; what++) {
                Check.due("house(" + house + ", " + what + ")", x.house(house, what), want[house][what]);
            }
        }
        Check.by(6, "(-2: none)");
        x.unsplice();
        Check.due("house(0, 2)", x.house(0, 2), NOT);
        Check.by(6, "(without: 0)");
        Check.due("house(0, 3)", x.house(0, 3), 0);
        Check.due("house(0, 4)", x.house(0, 4), 0);
        Check.by(6, "8 how often it gave");
        Check.due("house(0, 8)", x.house(0, 8), 1);
        x.splice(0);
        Check.due("house(0, 8)", x.house(0, 8), 2);
        x.undo();
        Check.due("house(0, 8)", x.house(0, 8), 1);
        // A PLAIT may be there and 0 STRONG.
        x = Check.ropeOf("house a 5 1;", 0);
        x.years(1);
        Check.due("house(0, 2)", x.house(0, 2), 0);
        Check.due("house(0, 4)", x.house(0, 4), 0);
    }

    private static void houseNone() {
        Check.by(6, "NONE for others.");
        for (String text : new String[] {"", "house a 1 9;", THREE, SIX}) {
            HairRope x = Check.ropeOf(text);
            int houses = x.count(0);
            for (int what = 0; what <= 8; what++) {
                for (int no : Check.outside(0, houses - 1)) {
                    Check.due("house(" + no + ", " + what + ")", x.house(no, what), NONE);
                }
            }
            for (int no : Check.outside(0, 8)) {
                Check.due("house(0, " + no + ")", x.house(0, no), NONE);
                Check.due("house(" + no + ", " + no + ")", x.house(no, no), NONE);
                Check.due("house(last, " + no + ")", x.house(houses - 1, no), NONE);
            }
        }
    }

    private static void likes() {
        Check.by(7, "LIKES; NONE: no such ones, one and the same.");
        HairRope x = Check.ropeOf(SIX + "likes a f 0;likes f e 9;");
        for (int a = 0; a < 6; a++) {
            for (int b = 0; b < 6; b++) {
                int want = a == b ? NONE : a + b == 5 && a * b == 0 ? 0 : a + b == 9 ? 9 : 5;
                Check.due("likes(" + a + ", " + b + ")", x.likes(a, b), want);
            }
            for (int no : Check.outside(0, 5)) {
                Check.due("likes(" + a + ", " + no + ")", x.likes(a, no), NONE);
                Check.due("likes(" + no + ", " + a + ")", x.likes(no, a), NONE);
                Check.due("likes(" + no + ", " + no + ")", x.likes(no, no), NONE);
            }
        }
        x.splice(0);
        x.years(3);
        Check.due("likes(0, 5) stay", x.likes(0, 5), 0);
    }

    private static void joins() {
        Check.by(8, "JOINS of two, the first above; NONE: no such ones, one and the same.");
        HairRope x = Check.ropeOf(SIX + "joins=which*100+other;");
        for (int a = 0; a < 6; a++) {
            for (int b = 0; b < 6; b++) {
                Check.due("joins(" + a + ", " + b + ")", x.joins(a, b), a == b ? NONE : a * 100 + 11 + b);
            }
            for (int no : Check.outside(0, 5)) {
                Check.due("joins(" + a + ", " + no + ")", x.joins(a, no), NONE);
                Check.due("joins(" + no + ", " + a + ")", x.joins(no, a), NONE);
                Check.due("joins(" + no + ", " + no + ")", x.joins(no, no), NONE);
            }
        }
        HairRope none = new HairRope();
        Check.due("joins(0, 1) without HOUSES", none.joins(0, 1), NONE);
        Check.due("likes(0, 1) without HOUSES", none.likes(0, 1), NONE);
        HairRope one = Check.ropeOf("house a 1 1;");
        Check.due("joins(0, 0) of one HOUSE", one.joins(0, 0), NONE);
        Check.due("joins(0, 1) of one HOUSE", one.joins(0, 1), NONE);
    }

    private static void at() {
        Check.by(9, "Whose PLAIT is at a place; NONE: no such place.");
        HairRope x = Check.ropeOf(SIX);
        int[] whose = {5, 0, 3, 1, 4, 2};
        for (int plaits = 0; plaits <= 6; plaits++) {
            for (int place = 0; place < 6; place++) {
                Check.due("at(" + place + ") of " + plaits, x.at(place), place < plaits ? whose[place] : NONE);
            }
            for (int no : Check.outside(0, plaits - 1)) {
                Check.due("at(" + no + ") of " + plaits, x.at(no), NONE);
            }
            if (plaits < 6) {
                x.splice(whose[plaits]);
            }
        }
        x.unsplice();
        Check.due("at(5), once unspliced", x.at(5), NONE);
        Check.due("at(4)", x.at(4), 4);
    }

    private static void splice() {
        Check.by(10, "It gives: how LONG the ROPE is then");
        HairRope x = Check.ropeOf(SIX);
        int[] longs = {1, 3, 6, 10, 15, 21};
        for (int house = 0; house < 6; house++) {
            Check.due("splice(" + house + ")", x.splice(house), longs[house]);
            Check.due("count(4)", x.count(4), longs[house]);
            Check.due("things done", x.count(9), house + 1);
        }
        x = Check.ropeOf("house a 20 9;house b 20 9;house c 20 9;house d 20 9;house e 20 9;house f 20 9;grows=99;");
        x.years(1);
        for (int house = 0; house < 6; house++) {
            Check.due("splice(" + house + ") of HAIR 99", x.splice(house), 99 * (house + 1));
        }
    }

    private static void spliceRefused() {
        Check.by(10, "NONE, and nothing happens: it has a PLAIT there, HAIR 0, no such HOUSE.");
        HairRope x = Check.ropeOf(THREE + "house d 0 9;", 0);
        Check.due("splice(0): a PLAIT, HAIR 0", x.splice(0), NONE);
        Check.due("splice(3): HAIR 0", x.splice(3), NONE);
        for (int no : Check.outside(0, 3)) {
            Check.due("splice(" + no + ")", x.splice(no), NONE);
        }
        x.years(1);
        Check.due("splice(0): a PLAIT, HAIR 1", x.splice(0), NONE);
        Check.due("HAIR stays", x.house(0, 0), 1);
        Check.due("given stays", x.house(0, 8), 1);
        Check.due("things done", x.count(9), 2);
        Check.due("splice(3): HAIR 1", x.splice(3), 11);
        Check.due("splice(0) of none", new HairRope().splice(0), NONE);
    }

    private static void unsplice() {
        Check.by(11, "The lowest PLAIT is unspliced: whose; NONE, and nothing happens: no ROPE.");
        HairRope x = Check.ropeOf(SIX, 4, 0, 2, 1, 5, 3);
        int[] whose = {3, 5, 1, 2, 0, 4};
        for (int i = 0; i < 6; i++) {
            Check.due("unsplice() " + i, x.unsplice(), whose[i]);
            Check.due("PLAITS", x.count(3), 5 - i);
            Check.due("things done", x.count(9), 7 + i);
        }
        Check.due("unsplice() without ROPE", x.unsplice(), NONE);
        Check.due("things done", x.count(9), 12);
        Check.due("undo()", x.undo(), true);
        Check.due("the last one is back", x.at(0), 4);
        Check.due("unsplice() of a new one", new HairRope().unsplice(), NONE);
        x = Check.ropeOf(THREE + "well 1;", 0);
        x.haul(999);
        Check.due("unsplice() of what broke", x.unsplice(), NONE);
    }

    private static void haul() {
        Check.by(12, "A haul of w (0 .. 999): how many PLAITS there are behind it");
        HairRope x = Check.ropeOf(THREE + "well 20;joins=999;", 0, 1, 2);
        Check.due("haul(0)", x.haul(0), 3);
        Check.due("haul(20)", x.haul(20), 3);
        Check.due("haul(21)", x.haul(21), 2);
        Check.due("not LONG enough by now", x.haul(0), NONE);
        x.undo();
        Check.due("haul(27)", x.haul(27), 1);
        x.undo();
        Check.due("haul(999)", x.haul(999), 0);
        x.undo();
        Check.due("haul(998)", x.haul(998), 0);
    }

    private static void haulRefused() {
        Check.by(12, "NONE, and nothing happens: not LONG enough, no such w.");
        HairRope x = Check.ropeOf(THREE + "well 20;", 0, 1, 2);
        for (int no : Check.outside(0, 999)) {
            Check.due("haul(" + no + ")", x.haul(no), NONE);
        }
        Check.due("PLAITS", x.count(3), 3);
        Check.due("drawn", x.count(5), 0);
        Check.due("things done", x.count(9), 3);
        x.unsplice();
        for (int w : new int[] {0, 1, 999, -1, 1000}) {
            Check.due("haul(" + w + ") of LONG 16", x.haul(w), NONE);
        }
        Check.due("PLAITS", x.count(3), 2);
        Check.due("things done", x.count(9), 4);
        Check.due("haul(0) without ROPE", new HairRope().haul(0), NONE);
        Check.due("haul(0) without ROPE, WELL 1", Check.ropeOf("house a 9 9;well 1;").haul(0), NONE);
    }

    private static void years() {
        Check.by(13, "n YEARS (0 .. 60; 0 is no thing done) go by: which it is");
        HairRope x = Check.ropeOf("house a 0 99;house b 5 99;", 1);
        Check.due("years(0)", x.years(0), 0);
        Check.due("no thing done", x.count(9), 1);
        Check.due("years(60)", x.years(60), 60);
        Check.due("HAIR", x.house(0, 0), 60);
        Check.due("STRONG", x.house(1, 4), 39);
        Check.due("one thing done", x.count(9), 2);
        Check.due("years(1)", x.years(1), 61);
        Check.due("years(59)", x.years(59), 120);
        Check.due("years(0)", x.years(0), 120);
        Check.due("things done", x.count(9), 4);
        x.undo();
        Check.due("undo() of years(59)", x.count(2), 61);
    }

    private static void yearsRefused() {
        Check.by(13, "NONE, and nothing happens: no such n.");
        HairRope x = Check.ropeOf("house a 0 99;house b 5 99;", 1);
        for (int no : Check.outside(0, 60)) {
            Check.due("years(" + no + ")", x.years(no), NONE);
        }
        Check.due("year", x.count(2), 0);
        Check.due("HAIR", x.house(0, 0), 0);
        Check.due("things done", x.count(9), 1);
    }

    private static void undo() {
        Check.by(14, "The last thing done (splice, unsplice, haul, years) is undone: true; false: there is none");
        HairRope x = Check.ropeOf(THREE + "well 10;");
        Check.due("undo() of nothing", x.undo(), false);
        x.splice(0);
        Check.due("undo() of splice", x.undo(), true);
        Check.due("HAIR", x.house(0, 0), 10);
        Check.due("given", x.house(0, 8), 0);
        Check.due("PLAITS", x.count(3), 0);
        x.splice(0);
        x.unsplice();
        Check.due("undo() of unsplice", x.undo(), true);
        Check.due("at(0)", x.at(0), 0);
        Check.due("LONG", x.house(0, 3), 10);
        x.haul(7);
        Check.due("undo() of a haul", x.undo(), true);
        Check.due("drawn", x.count(5), 0);
        x.haul(0);
        Check.due("undo() of a haul of 0", x.undo(), true);
        x.haul(51);
        Check.due("PLAITS", x.count(3), 0);
        Check.due("undo() of a haul that broke", x.undo(), true);
        Check.due("PLAITS", x.count(3), 1);
        Check.due("STRONG", x.house(0, 4), 50);
        x.years(3);
        Check.due("undo() of years", x.undo(), true);
        Check.due("year", x.count(2), 0);
        Check.due("HAIR", x.house(1, 0), 6);
        Check.due("STRONG", x.house(0, 4), 50);
        Check.due("undo() of splice", x.undo(), true);
        Check.due("undo() of nothing more", x.undo(), false);
        Trace.same(x, Check.ropeOf(THREE + "well 10;"), "all undone");
        // What is no thing done, or refused, is not undone.
        x = Check.ropeOf(THREE, 0);
        x.years(0);
        x.splice(0);
        x.haul(-1);
        x.tell(0, 1, true);
        x.hold(1);
        x.forget();
        Check.feed(x, "?");
        x.back(1);
        Check.due("undo() of the splice alone", x.undo(), true);
        Check.due("PLAITS", x.count(3), 0);
        Check.due("undo()", x.undo(), false);
    }

    private static void undoForty() {
        Check.by(14, "(the last 40 can be)");
        for (int done : new int[] {39, 40, 41, 79, 80, 81, 100}) {
            HairRope x = Check.ropeOf("house a 1 9;");
            for (int i = 0; i < done; i++) {
                x.years(1);
                Check.due("things done", x.count(9), Math.min(40, i + 1));
            }
            for (int i = 1; i <= Math.min(40, done); i++) {
                Check.due("undo() " + i + " of " + done, x.undo(), true);
                Check.due("year", x.count(2), done - i);
                Check.due("HAIR", x.house(0, 0), Math.min(99, 1 + done - i));
            }
            Check.due("undo() of one more", x.undo(), false);
            Check.due("year", x.count(2), Math.max(0, done - 40));
        }
    }

    // ---- promises 38 to 40

    private static void hold() {
        Check.by(38, "is held in a SLOT (0 .. 2): true; false: no such one.");
        HairRope x = Check.ropeOf(THREE);
        for (int no : Check.outside(0, 2)) {
            Check.due("hold(" + no + ")", x.hold(no), false);
            Check.due("SLOTS", x.count(11), 0);
        }
        for (int slot = 0; slot < 3; slot++) {
            Check.due("hold(" + slot + ")", x.hold(slot), true);
            Check.due("SLOTS", x.count(11), slot + 1);
            Check.due("hold(" + slot + ") anew", x.hold(slot), true);
            Check.due("SLOTS", x.count(11), slot + 1);
            x.years(1);
        }
        for (int slot = 2; slot >= 0; slot--) {
            Check.due("restore(" + slot + ")", x.restore(slot), true);
            Check.due("year", x.count(2), slot);
        }
        Check.due("hold(1) of a new one", new HairRope().hold(1), true);
    }

    private static HairRope gone() {
        HairRope x = Check.ropeOf(THREE + "well 10;joins=99;", 1, 0);
        x.haul(7);
        x.years(2);
        x.unsplice();
        x.splice(2);
        return x;
    }

    private static void holdWhat() {
        Check.by(38, "All that goes on (not what is TOLD, nor the tape) is held");
        HairRope x = gone();
        x.tell(0, 5, true);
        Check.feed(x, "well 5;");
        x.hold(0);
        x.splice(0);
        x.haul(3);
        x.haul(500);
        x.years(9);
        x.tell(1, 6, true);
        x.back(1);
        Check.due("restore(0)", x.restore(0), true);
        Check.due("what is TOLD stays", x.count(10), 2);
        Check.due("the tape stays", x.count(8), 6);
        Check.due("none can be undone", x.undo(), false);
        x.forget();
        x.back(6);
        HairRope y = gone();
        y.hold(1);
        y.restore(1);
        for (int what = 0; what <= 16; what++) {
            Check.due("count(" + what + ")", x.count(what), y.count(what));
        }
        for (int house = 0; house < 3; house++) {
            for (int what = 0; what <= 8; what++) {
                Check.due("house(" + house + ", " + what + ")", x.house(house, what), y.house(house, what));
            }
            Check.due("at(" + house + ")", x.at(house), y.at(house));
        }
    }

    private static void restore() {
        Check.by(39, "It goes on from what a SLOT holds (that stays there; nothing can be undone then): true");
        HairRope x = Check.ropeOf(THREE + "well 10;", 0);
        x.hold(0);
        for (int i = 0; i < 3; i++) {
            x.haul(5);
            x.years(4);
            x.unsplice();
            Check.due("restore(0)", x.restore(0), true);
            Check.due("PLAITS", x.count(3), 1);
            Check.due("drawn", x.count(5), 0);
            Check.due("year", x.count(2), 0);
            Check.due("things that can be undone", x.count(9), 0);
            Check.due("undo()", x.undo(), false);
            Check.due("SLOTS", x.count(11), 1);
        }
        x.years(1);
        Check.due("what is done then can be undone", x.undo(), true);
        Check.due("year", x.count(2), 0);
        Check.due("undo()", x.undo(), false);
        x.years(5);
        x.hold(0);
        x.years(5);
        x.restore(0);
        Check.due("what it was held anew with", x.count(2), 5);
    }

    private static void restoreRefused() {
        Check.by(39, "false, and nothing happens: no such one, nothing is held.");
        HairRope x = Check.ropeOf(THREE, 0, 1);
        for (int slot = 0; slot < 3; slot++) {
            Check.due("restore(" + slot + ") of nothing held", x.restore(slot), false);
        }
        x.hold(1);
        x.years(1);
        Check.due("restore(0) of nothing held", x.restore(0), false);
        Check.due("restore(2) of nothing held", x.restore(2), false);
        for (int no : Check.outside(0, 2)) {
            Check.due("restore(" + no + ")", x.restore(no), false);
        }
        Check.due("year", x.count(2), 1);
        Check.due("things that can be undone", x.count(9), 3);
        Check.due("restore(1) of a new one", new HairRope().restore(1), false);
        Check.read(x, THREE);
        Check.due("restore(1) behind another text", x.restore(1), false);
    }

    private static void counts() {
        Check.by(40, "0 HOUSES, 1 how deep the WELL is, 2 the year, 3 how many PLAITS, 4 LONG of the ROPE, 5 what was drawn so far,"
            + " 6 HAIR of all, added, 7 HOUSES with a PLAIT there (bits), 8 bytes on the tape, 9 things that can be undone, 10 TOLD ones,"
            + " 11 SLOTS that hold something, 12: 1 the ROPE is LONG enough, else 0, 13 WATER, 14 how often any gave so far,"
            + " 15 HOUSES of HAIR 0 (bits), 16 how STRONG all PLAITS are, added.");
        HairRope x = Check.ropeOf(SIX + "well 9;water 33;joins=99;", 5, 2);
        x.haul(7);
        x.haul(6);
        x.years(2);
        x.splice(0);
        x.unsplice();
        x.tell(0, 1, true);
        x.tell(5, 99, false);
        x.hold(2);
        x.hold(0);
        Check.feed(x, "house");
        // HAIR 0, 4, 2, 6, 7, 2; PLAITS of f and c, STRONG 14 and 11.
        int[] want = {6, 9, 2, 2, 9, 13, 21, 36, 5, 7, 2, 2, 1, 33, 3, 1, 25};
        for (int what = 0; what < want.length; what++) {
            Check.due("count(" + what + ")", x.count(what), want[what]);
        }
        x.unsplice();
        Check.due("count(12), not LONG enough", x.count(12), 0);
        Check.due("count(7)", x.count(7), 32);
        Check.due("count(16)", x.count(16), 14);
        x.unsplice();
        Check.due("count(3) of no ROPE", x.count(3), 0);
        Check.due("count(4) of no ROPE", x.count(4), 0);
        Check.due("count(7) of no ROPE", x.count(7), 0);
        Check.due("count(16) of no ROPE", x.count(16), 0);
        Check.due("count(14) stays", x.count(14), 3);
        HairRope all = Check.ropeOf("house a 0 9;house b 0 9;house c 0 9;house d 0 9;house e 0 9;house f 0 9;");
        Check.due("count(15) of all", all.count(15), 63);
        Check.due("count(6) of none", all.count(6), 0);
        HairRope each = Check.ropeOf(SIX.replace("house a 1", "house a 20").replace("house f 6", "house f 19"));
        Check.due("count(6) of each", each.count(6), 20 + 2 + 3 + 4 + 5 + 19);
        for (int house = 5; house >= 0; house--) {
            each.splice(house);
        }
        Check.due("count(4) of each", each.count(4), 53);
        Check.due("count(7) of each", each.count(7), 63);
        Check.due("count(14) of each", each.count(14), 6);
        Check.due("count(15) of each", each.count(15), 63);
        Check.due("count(16) of each", each.count(16), 11 + 12 + 13 + 14 + 15 + 16);
    }

    private static void countNone() {
        Check.by(40, "NONE for others.");
        for (String text : new String[] {"", SIX}) {
            HairRope x = Check.ropeOf(text);
            for (int no : Check.outside(0, 16)) {
                Check.due("count(" + no + ")", x.count(no), NONE);
            }
            Check.due("count(16)", x.count(16), 0);
        }
    }

    private static void calls512() {
        // An object is used for 512 calls at most: the last one of them answers as all others do.
        HairRope x = Check.ropeOf("house a 1 99;house b 20 99;well 5;weakens=0;", 1);
        int calls = 3 + 1 + 1 + 1;
        for (; calls < 511; calls++) {
            Check.due("haul(79)", x.haul(79), 1);
        }
        Check.due("the 512th call", x.count(5), 505 * 79);
        HairRope y = Check.ropeOf("house a 1 99;");
        for (int i = 0; i < 500; i++) {
            y.years(60);
        }
        Check.due("the year", y.count(2), 30000);
        Check.due("things that can be undone", y.count(9), 40);
        Check.due("HAIR", y.house(0, 0), 99);
    }
}
