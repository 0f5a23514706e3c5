/** Promises 2 to 5: the tape, and the FAULTS of texts. */
public final class TextTest {
    private static final String SEVEN = "house a 1 1; house b 1 1; house c 1 1; house d 1 1; house e 1 1; house f 1 1; ";
    private static final String IF = "if 1 < 2 then 3 else ";

    public static void main(String[] args) {
        feeds();
        bytesOfAFeed();
        backs();
        goodTexts();
        syntax();
        tokensThatAreNone();
        endOfText();
        room();
        roomAndSyntax();
        names();
        numbers();
        firstOfFaults();
        faultyTextChangesNothing();
        goodTextIsInPlaceOfTheOneAhead();
        Check.end();
    }

    private static void feeds() {
        HairRope x = new HairRope();
        for (int i = 1; i <= 100; i++) {
            Check.due("feed " + i, x.feed(0, 0, 0, 0, 0), 20 * i);
        }
        Check.due("feed of a full tape", x.feed(0, 0, 0, 0, 0), HairRope.NONE);
        Check.due("count(8)", x.count(8), 2000);
        Check.due("back(1)", x.back(1), 1999);
        Check.due("feed with 1 byte of room", x.feed(0, 0, 0, 0, 0), HairRope.NONE);
        Check.due("back(18)", x.back(18), 1981);
        Check.due("feed with 19 bytes of room", x.feed(0, 0, 0, 0, 0), HairRope.NONE);
        Check.due("back(1)", x.back(1), 1980);
        Check.due("feed with 20 bytes of room", x.feed(0, 0, 0, 0, 0), 2000);
        Check.due("read() of bytes 0", x.read(), 1);
        Check.due("place()", x.place(), 0);
        Check.due("count(8)", x.count(8), 0);
    }

    private static void bytesOfAFeed() {
        HairRope x = new HairRope();
        x.feed(0x77656c6c, 0x20353720, 0x3b776174, 0x65722038, 0x38093b0a);
        Check.due("read()", x.read(), 0);
        Check.due("well", x.count(1), 57);
        Check.due("water", x.count(13), 88);
        x.feed(0x77656c6c, 0x20353bff, 0x20202020, 0x20202020, 0x20202020);
        Check.due("read() with byte 255", x.read(), 1);
        Check.due("place() of byte 255", x.place(), 7);
        x.feed(0xf7656c6c, 0x20353b20, 0x20202020, 0x20202020, 0x20202020);
        Check.due("read() with byte 247", x.read(), 1);
        Check.due("place() of byte 247", x.place(), 0);
    }

    private static void backs() {
        HairRope x = new HairRope();
        Check.due("back(0)", x.back(0), 0);
        Check.due("back(1) of an empty tape", x.back(1), HairRope.NONE);
        Check.feed(x, "well 5;well 6;");
        Check.due("count(8)", x.count(8), 14);
        Check.due("back(-1)", x.back(-1), HairRope.NONE);
        Check.due("back(15)", x.back(15), HairRope.NONE);
        Check.due("back(least int)", x.back(Integer.MIN_VALUE), HairRope.NONE);
        Check.due("back(greatest int)", x.back(Integer.MAX_VALUE), HairRope.NONE);
        Check.due("back(0)", x.back(0), 14);
        Check.due("back(7)", x.back(7), 7);
        Check.due("read()", x.read(), 0);
        Check.due("the first well stays", x.count(1), 5);
        Check.feed(x, "well 6;");
        Check.due("back(7)", x.back(7), 0);
        Check.due("read()", x.read(), 0);
        Check.due("well of an empty text", x.count(1), 20);
    }

    private static void good(String text) {
        Check.fault(text, 0, HairRope.NONE);
    }

    private static void goodTexts() {
        good("");
        good(" \t\n\r");
        good("house a 0 1;");
        good("house a0 1;");
        good("house a1 20;");
        good("house abcdefgh 20 99;");
        good("house\ta\n20\r99 ;");
        good("house a 0020 0099;");
        good("house a 1 1;house b 1 1;likes a b 0;likes b a 9;");
        good("well 1;well 99;water 0;water 99;blight 0;blight 100;seed 0;seed 9999;");
        good("grows=1;weakens=hair+strong-like*year/place;joins=which*spliced;costs=given-other;");
        good("grows = if hair < 1 then 2 else if (3) < 4 - 1 then 5 else 6;");
        good("grows = " + IF.repeat(4) + "1;");
        good("grows = " + IF.repeat(4) + "1; weakens = " + IF.repeat(4) + "1; grows = " + IF + "2;");
        good("grows = ((((((1)))))) + ((((((2)))))) * (3);");
        good("grows = 9999;");
        good("grows=1;".repeat(100));
        good("grows = 1;grows = 2;costs = 1 / 0;");
        good(SEVEN);
        good("house a 1 1; house b 1 1;" + "likes a b 1;".repeat(20));
        good("house a 1 1; house aa 1 1; house b 1 1; house bb 1 1; house ab 1 1; house ba 1 1;");
        good("house z 1 1; house az 1 1; house zz 1 1; house zzzzzzzz 1 1; house azzzzzzz 1 1; house aaaaaaaa 1 1;");
        good("house mouse 1 1; house bell 1 1; house of 1 1; house eather 1 1; house wellx 1 1; house spliceda 1 1;");
        good("grows = if ((((((1)))))) < ((((((2)))))) then ((((((3)))))) else ((((((4))))));");
        good("house likesa 1 1; house houses 1 1; house ifx 1 1; house grow 1 1; house weaken 1 1;");
    }

    private static void syntax() {
        Check.fault("x", 1, 0);
        Check.fault(";", 1, 0);
        Check.fault("5", 1, 0);
        Check.fault("if", 1, 0);
        Check.fault("hair = 1;", 1, 0);
        Check.fault("well 5;;", 1, 7);
        Check.fault("well;", 1, 4);
        Check.fault("well a;", 1, 5);
        Check.fault("well -5;", 1, 5);
        Check.fault("well 5 5;", 1, 7);
        Check.fault("well 5 well 6;", 1, 7);
        Check.fault("blight = 5;", 1, 7);
        Check.fault("house if 3 4;", 1, 6);
        Check.fault("house well 3 4;", 1, 6);
        Check.fault("house other 3 4;", 1, 6);
        Check.fault("house 3 4;", 1, 6);
        Check.fault("house a 3;", 1, 9);
        Check.fault("house a 345;", 1, 11);
        Check.fault("house a b 3;", 1, 8);
        Check.fault("likes a 5;", 1, 8);
        Check.fault("likes a b;", 1, 9);
        Check.fault("grows 1;", 1, 6);
        Check.fault("grows = ;", 1, 8);
        Check.fault("grows = x;", 1, 8);
        Check.fault("grows = -1;", 1, 8);
        Check.fault("grows = 1 + ;", 1, 12);
        Check.fault("grows = 1 * + 2;", 1, 12);
        Check.fault("grows = 1 2;", 1, 10);
        Check.fault("grows = ();", 1, 9);
        Check.fault("grows = (1;", 1, 10);
        Check.fault("grows = 1);", 1, 9);
        Check.fault("grows = 1 < 2;", 1, 10);
        Check.fault("grows = if 1 then 2 else 3;", 1, 13);
        Check.fault("grows = if 1 < 2 < 3 then 2 else 3;", 1, 17);
        Check.fault("grows = if 1 < 2 then 3;", 1, 23);
        Check.fault("grows = if 1 < 2 then if 1 < 2 then 1 else 2 else 3;", 1, 22);
        Check.fault("grows = (if 1 < 2 then 3 else 4);", 1, 9);
        Check.fault("grows = 1 else 2;", 1, 10);
    }

    private static void tokensThatAreNone() {
        Check.fault("house abcdefghi 1 1;", 1, 6);
        Check.fault("well 12345;", 1, 5);
        Check.fault("well 00005;", 1, 5);
        Check.fault("wellwellwell 5;", 1, 0);
        Check.fault("Well 5;", 1, 0);
        Check.fault("house aB 1 1;", 1, 7);
        Check.fault("house a_ 1 1;", 1, 7);
        Check.fault("well 5.", 1, 6);
        Check.fault("well 5,", 1, 6);
        Check.fault("well 5; .", 1, 8);
        Check.fault("well\u000b5;", 1, 4);
        Check.fault("well\u000c5;", 1, 4);
        Check.fault("well\u00005;", 1, 4);
        Check.fault("well\u00a05;", 1, 4);
        Check.fault("\u00e9", 1, 0);
        Check.fault("well 5; >", 1, 8);
        Check.fault("grows = 1 > 2;", 1, 10);
        Check.fault("grows = 1 % 2;", 1, 10);
    }

    private static void endOfText() {
        Check.fault("house", 1, 5);
        Check.fault("house  ", 1, 7);
        Check.fault("house a 1 20", 1, 12);
        Check.fault("grows = 1", 1, 9);
        Check.fault("grows = (1)\n\n", 1, 13);
        Check.fault("well 5", 1, 6);
        Check.fault(" ".repeat(1990) + "well 5", 1, 1996);
    }

    private static void room() {
        Check.fault("well 5;".repeat(134), 2, 936);
        Check.fault("grows=1;".repeat(100) + "well", 2, 800);
        Check.fault("grows=" + "1+".repeat(198) + "1;well 5;", 2, 404);
        Check.fault(SEVEN + "house g 1 1;", 2, SEVEN.length());
        Check.fault("house a 1 1; house b 1 1;" + "likes a b 1;".repeat(21), 2, 25 + 20 * 12);
        Check.fault("house a 1 1; house b 1 1;" + "likes a b 1;likes b a 1;".repeat(11), 2, 25 + 20 * 12);
        Check.fault("grows = " + IF.repeat(5) + "1;", 2, 8 + 4 * IF.length());
        Check.fault("weakens = 1; costs = " + IF.repeat(6) + "1;", 2, 21 + 4 * IF.length());
        Check.fault("grows = (((((((1)))))));", 2, 14);
        Check.fault("grows = 1 + (2 * (((((3 - (4)))))));", 2, 26);
        Check.fault("grows = if (((((((1))))))) < 2 then 3 else 4;", 2, 17);
        Check.fault("grows = if 1 < (((((((2))))))) then 3 else 4;", 2, 21);
        Check.fault("grows = if 1 < 2 then (((((((3))))))) else 4;", 2, 28);
        Check.fault("grows = if 1 < 2 then 3 else (((((((4)))))));", 2, 35);
    }

    private static void roomAndSyntax() {
        Check.fault("grows=1;".repeat(100) + "w", 1, 800);
        Check.fault("grows=1;".repeat(100) + "?", 1, 800);
        Check.fault("grows=1;".repeat(100) + "abcdefghi", 1, 800);
        Check.fault("well 5;".repeat(133) + "well", 1, 935);
        Check.fault("well 5;".repeat(133) + "well x", 1, 936);
        Check.fault(SEVEN + "house", 2, SEVEN.length());
        Check.fault(SEVEN + "house ? 7;", 2, SEVEN.length());
        Check.fault(SEVEN + "hous", 1, SEVEN.length());
        Check.fault("? " + SEVEN + "house g 1 1;", 1, 0);
        Check.fault("grows = " + IF.repeat(4) + "if ;", 2, 8 + 4 * IF.length());
        Check.fault("grows = (((((((", 2, 14);
        Check.fault("grows = ((((((;", 1, 14);
        Check.fault("grows = 1 (((((((", 1, 10);
    }

    private static void names() {
        Check.fault("house a 1 1; house a 1 1;", 3, 19);
        Check.fault("house a 1 1; house b 1 1; house a 1 1; house b 1 1;", 3, 32);
        Check.fault("house a 1 1; likes a a 5;", 3, 21);
        Check.fault("house a 1 1; likes b b 5;", 4, 19);
        Check.fault("likes a b 5;", 4, 6);
        Check.fault("house a 1 1; likes a b 5; house b 1 1;", 4, 21);
        Check.fault("house a 1 1; house ab 1 1; likes a b 5;", 4, 35);
        Check.fault("house a 1 1; house a 1 1; likes a a 5;", 3, 19);
    }

    private static void numbers() {
        Check.fault("house a 21 1;", 5, 8);
        Check.fault("house a 20 0;", 5, 11);
        Check.fault("house a 20 100;", 5, 11);
        Check.fault("house a 1 1; house b 1 1; likes a b 10;", 5, 36);
        Check.fault("well 0;", 5, 5);
        Check.fault("well 100;", 5, 5);
        Check.fault("water 100;", 5, 6);
        Check.fault("blight 101;", 5, 7);
        Check.fault("well 5; well 0; well 6;", 5, 13);
    }

    private static void firstOfFaults() {
        Check.fault("house a 21 0;", 5, 8);
        Check.fault("well 0; house a 1 1; house a 1 1;", 5, 5);
        Check.fault("house a 1 1; house a 21 0;", 3, 19);
        Check.fault("house a 1 1; likes a a 10;", 3, 21);
        Check.fault("house a 1 1; likes a b 10;", 4, 21);
        Check.fault("likes a b 10; well 0;", 4, 6);
        Check.fault("well 0; x", 1, 8);
        Check.fault("house a 1 1; house a 1 1; house", 1, 31);
        Check.fault("house a 1 1; " + SEVEN, 2, 13 + 5 * 13);
        Check.fault("well 0; grows = (((((((1)))))));", 2, 22);
    }

    private static final String OLD = "house a 9 50; house b 7 40; well 5; water 3; blight 100; seed 4;";

    private static HairRope busy() {
        HairRope x = Check.ropeOf(OLD);
        x.splice(0);
        x.splice(1);
        x.haul(6);
        x.unsplice();
        x.years(2);
        x.tell(0, 5, true);
        x.hold(1);
        return x;
    }

    private static void faultyTextChangesNothing() {
        HairRope x = busy();
        HairRope y = busy();
        Check.due("read()", Check.read(x, "house q 3 3; well 77; water 7; grows = 5; joins = 1; costs = 9; well 0;"), 5);
        Check.due("place()", x.place(), 69);
        same(x, y);
        Check.due("read()", Check.read(x, "grows = 7; costs = 3; x"), 1);
        same(x, y);
        Check.due("undo()", x.undo(), true);
        Check.due("year", x.count(2), 0);
        Check.due("restore(1)", x.restore(1), true);
        Check.due("year", x.count(2), 2);
        Check.due("place()", x.place(), 22);
    }

    private static void same(HairRope x, HairRope y) {
        for (int what = 0; what <= 17; what++) {
            Check.due("count(" + what + ")", x.count(what), y.count(what));
        }
        for (int house = 0; house < 3; house++) {
            for (int what = 0; what <= 9; what++) {
                Check.due("house(" + house + ", " + what + ")", x.house(house, what), y.house(house, what));
            }
        }
        Check.due("joins(0, 1)", x.joins(0, 1), y.joins(0, 1));
        Check.due("most()", x.most(), y.most());
    }

    private static void goodTextIsInPlaceOfTheOneAhead() {
        HairRope x = busy();
        Check.due("drawn", x.count(5), 6);
        Check.due("read()", Check.read(x, "house c 4 30;"), 0);
        int[] want = {1, 20, 0, 0, 0, 0, 4, 0, 0, 0, 0, 0, 0, 10, 0, 0, 0};
        for (int what = 0; what < want.length; what++) {
            Check.due("count(" + what + ")", x.count(what), want[what]);
        }
        Check.due("place()", x.place(), HairRope.NONE);
        Check.due("undo()", x.undo(), false);
        Check.due("restore(1)", x.restore(1), false);
        Check.due("house(0, 8)", x.house(0, 8), 0);
        Check.due("house(1, 0)", x.house(1, 0), HairRope.NONE);
        Check.due("no blight is left", x.then(0, 1, 0), 5);
        Check.read(x, "blight 100; ?");
        Check.due("place() of a FAULT", x.place(), 12);
        Check.due("read() of nothing", x.read(), 0);
        Check.due("place() behind it", x.place(), HairRope.NONE);
        Check.due("HOUSES of nothing", x.count(0), 0);
    }
}
