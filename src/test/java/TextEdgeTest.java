import java.util.ArrayList;
import java.util.List;

/** The edges that the document names of texts: the Terms' first part, and promises 1 to 5. One test for each sentence. */
public final class TextEdgeTest {
    private static final int NONE = HairRope.NONE;
    private static final String[] QUOTED = {"house", "likes", "well", "water", "grows", "weakens", "joins", "costs", "blight",
        "seed", "if", "then", "else", "hair", "strong", "like", "year", "place", "which", "spliced", "given", "other"};
    private static final String[] VARS = {"hair", "strong", "like", "year", "place", "which", "spliced", "given", "other"};
    private static final String TWO = "house a 1 1;house b 1 1;";
    private static final String SIX = "house a 1 1;house b 1 1;house c 1 1;house d 1 1;house e 1 1;house f 1 1;";
    private static final String IF = "if 1 < 2 then 3 else ";
    /** 400 TOKENS in 800 bytes. */
    private static final String TOKENS_400 = "grows=1;".repeat(100);

    public static void main(String[] args) {
        newObject();
        feedBytes();
        feedFull();
        backLast();
        backRefused();
        readEmpties();
        readNumbers();
        placeOfLatest();
        textOf2000();
        tokensLongest();
        tokensBlanks();
        tokensOfEachByte();
        names();
        namesQuoted();
        ints();
        signs();
        longerOnes();
        grammarTells();
        grammarLaws();
        grammarExpressions();
        grammarVars();
        housesNumbered();
        housesBounds();
        likesBounds();
        likesBothWays();
        wellAndWater();
        lawsUntold();
        blightAndSeed();
        faultsFirstByPlace();
        faultsAtTheEnd();
        faultsOfOnePlace();
        syntaxAtTheToken();
        roomOfTokens();
        roomOfSorts();
        roomOfIfs();
        roomOfBrackets();
        othersOnlyWithoutSyntaxOrRoom();
        twice();
        unknown();
        wrong();
        faultChangesNothing();
        goodTextBeginsAnew();
        nothingIsLeftOfTextsAhead();
        Check.end();
    }

    // ---- promises 1 to 5

    private static void newObject() {
        Check.by(1, "No HOUSES.");
        HairRope x = new HairRope();
        Check.due("count(0)", x.count(0), 0);
        Check.due("house(0, 0)", x.house(0, 0), NONE);
        Check.due("splice(0)", x.splice(0), NONE);
        Check.due("rows(0, 1, 0)", x.rows(0, 1, 0), 0);
        Check.due("orders(0)", x.orders(0), 0);
        Check.due("pivots()", x.pivots(), 0);
        int[] counts = {0, 20, 0, 0, 0, 0, 0, 0, 0, 0, 0, 0, 0, 10, 0, 0, 0};
        for (int what = 0; what < counts.length; what++) {
            Check.due("count(" + what + ")", x.count(what), counts[what]);
        }
        Check.due("place()", x.place(), NONE);
        Check.due("undo()", x.undo(), false);
        for (int slot = 0; slot < 3; slot++) {
            Check.due("restore(" + slot + ")", x.restore(slot), false);
        }
    }

    private static void feedBytes() {
        Check.by(2, "Twenty bytes, the highest of a first, come behind the tape: how many it has.");
        HairRope x = new HairRope();
        // Any other order of the bytes is no text, or one of other numbers.
        Check.due("feed", x.feed(0x77656c6c, 0x2031323b, 0x77617465, 0x72203334, 0x3b202020), 20);
        Check.due("feed behind it", x.feed(0x626c6967, 0x68742035, 0x363b7365, 0x65642037, 0x383b2020), 40);
        Check.due("read()", x.read(), 0);
        Check.due("WELL", x.count(1), 12);
        Check.due("WATER", x.count(13), 34);
        x.feed(0x77656c6c, 0x20312020, 0x20202020, 0x20202020, 0x20202020);
        x.feed(0x3b77656c, 0x6c20323b, 0x20202020, 0x20202020, 0x20202020);
        Check.due("read() of a text in two feeds", x.read(), 0);
        Check.due("the WELL of the one behind", x.count(1), 2);
        Check.due("feed of the least and the greatest", x.feed(Check.LEAST, Check.GREATEST, -1, 0, 1), 20);
        Check.due("read() of byte 128", x.read(), 1);
        Check.due("place()", x.place(), 0);
        for (int at = 0; at < 20; at++) {
            int[] f = {0x20202020, 0x20202020, 0x20202020, 0x20202020, 0x20202020};
            f[at / 4] ^= 0xdf << 24 - at % 4 * 8;
            x.feed(f[0], f[1], f[2], f[3], f[4]);
            Check.due("read() of byte 255 as number " + at, x.read(), 1);
            Check.due("place() of byte 255 as number " + at, x.place(), at);
        }
    }

    private static void feedFull() {
        Check.by(2, "NONE, and nothing comes, if it would have more than 2,000.");
        HairRope x = new HairRope();
        for (int i = 1; i <= 100; i++) {
            Check.due("feed " + i, x.feed(0x20202020, 0x20202020, 0x20202020, 0x20202020, 0x20202020), 20 * i);
        }
        Check.due("feed of a full tape", x.feed(0, 0, 0, 0, 0), NONE);
        Check.due("count(8)", x.count(8), 2000);
        for (int room = 1; room < 20; room++) {
            x.back(1);
            Check.due("feed with room for " + room, x.feed(0, 0, 0, 0, 0), NONE);
            Check.due("count(8)", x.count(8), 2000 - room);
        }
        x.back(1);
        Check.due("feed with room for 20", x.feed(0x77656c6c, 0x20373b20, 0x20202020, 0x20202020, 0x20202020), 2000);
        Check.due("feed of a full tape", x.feed(0, 0, 0, 0, 0), NONE);
        Check.due("read(): no byte 0 came", x.read(), 0);
        Check.due("WELL", x.count(1), 7);
    }

    private static void backLast() {
        Check.by(3, "The last n bytes of the tape go: how many it has.");
        HairRope x = new HairRope();
        Check.feed(x, "well 5;well 6;");
        Check.due("back(0)", x.back(0), 14);
        Check.due("back(1)", x.back(1), 13);
        Check.due("back(6)", x.back(6), 7);
        Check.due("count(8)", x.count(8), 7);
        Check.due("read()", x.read(), 0);
        Check.due("the last ones went", x.count(1), 5);
        Check.feed(x, "well 6;");
        Check.due("back of all", x.back(7), 0);
        Check.due("back(0) of an empty tape", x.back(0), 0);
        Check.feed(x, "well 8;");
        Check.due("read()", x.read(), 0);
        Check.due("what comes then is at the tape's beginning", x.count(1), 8);
    }

    private static void backRefused() {
        Check.by(3, "NONE, and nothing goes, if it has not so many, or n is below 0.");
        HairRope x = new HairRope();
        for (int n : new int[] {1, -1, 2000, 2001, Check.LEAST, Check.GREATEST}) {
            Check.due("back(" + n + ") of an empty tape", x.back(n), NONE);
        }
        Check.feed(x, "well 5;well 6;");
        for (int n : new int[] {15, -1, -14, 2000, Check.LEAST, Check.LEAST + 14, Check.GREATEST}) {
            Check.due("back(" + n + ")", x.back(n), NONE);
            Check.due("count(8)", x.count(8), 14);
        }
        Check.due("read()", x.read(), 0);
        Check.due("WELL", x.count(1), 6);
    }

    private static void readEmpties() {
        Check.by(4, "The tape, which is empty then, is read: 0, or the number of its FAULT.");
        HairRope x = new HairRope();
        Check.due("read() of a new tape", x.read(), 0);
        for (String text : new String[] {"", "well 5;", "well 0;", "?", "house a 1 1;house a 1 1;"}) {
            Check.read(x, text);
            Check.due("count(8) behind " + text, x.count(8), 0);
            Check.due("back(1) behind " + text, x.back(1), NONE);
            Check.due("feed behind " + text, x.feed(0x20202020, 0x20202020, 0x20202020, 0x20202020, 0x20202020), 20);
            Check.due("read() of blanks behind " + text, x.read(), 0);
        }
        Check.read(x, TWO);
        Check.due("HOUSES", x.count(0), 2);
        Check.due("read() of an empty tape", x.read(), 0);
        Check.due("it is a text, too", x.count(0), 0);
    }

    private static void readNumbers() {
        Check.by(4, "0, or the number of its FAULT.");
        HairRope x = new HairRope();
        String[] texts = {"well 1;", "well;", TOKENS_400 + "well 1;", TWO + "house b 1 1;", "likes a b 1;", "well 0;"};
        for (int i = 0; i < texts.length; i++) {
            Check.due("read() of " + texts[i], Check.read(x, texts[i]), i);
        }
    }

    private static void placeOfLatest() {
        Check.by(5, "The byte of the latest read()'s FAULT; NONE without.");
        HairRope x = new HairRope();
        Check.due("place() without a read()", x.place(), NONE);
        Check.read(x, "?");
        Check.due("place() of the first byte", x.place(), 0);
        Check.read(x, "well 5;   ?");
        Check.due("place() of the latest", x.place(), 10);
        Check.feed(x, "well ?");
        Check.due("place() does not see what is fed", x.place(), 10);
        x.back(6);
        Check.due("place() stays behind back()", x.place(), 10);
        x.read();
        Check.due("place() behind a text without FAULT", x.place(), NONE);
        Check.read(x, " ".repeat(1996) + "well");
        Check.due("place() of the end of 2,000 bytes", x.place(), 2000);
        x.splice(0);
        x.years(1);
        x.undo();
        Check.due("place() stays", x.place(), 2000);
    }

    // ---- TOKENS

    private static void textOf2000() {
        Check.by(Check.TERMS, "A TEXT has 2,000 bytes at most.");
        HairRope x = new HairRope();
        Check.due("read() of 2,000 bytes", Check.read(x, " ".repeat(1993) + "well 7;"), 0);
        Check.due("WELL of the last bytes", x.count(1), 7);
        Check.fault(" ".repeat(1999) + "?", 1, 1999);
        Check.fault(" ".repeat(1999) + ";", 1, 1999);
        Check.fault(" ".repeat(1994) + "well 7", 1, 2000);
        Check.good(" ".repeat(2000));
    }

    private static void tokensLongest() {
        Check.by(Check.TERMS, "TOKENS, the longest that can be");
        Check.fault("housea 1 1;", 1, 0);
        Check.fault("house ab 1 1;likes a b 1;", 4, 19);
        Check.fault("well1 2;", 1, 6);
        Check.fault("well 100;", 5, 5);
        Check.fault("grows = likes;", 1, 8);
        Check.fault("like a b 1;", 1, 0);
        Check.fault("grows = 1 thenelse;", 1, 10);
        Check.good("house likes2 3;".replace("likes", "likesx"));
        Check.good("house ifthen 1 1;house elseif 1 1;house hairlike 1 1;");
        HairRope x = Check.ropeOf("well12;");
        Check.due("WELL", x.count(1), 12);
        x = Check.ropeOf("house a10 20;");
        Check.due("HAIR", x.house(0, 0), 10);
    }

    private static void tokensBlanks() {
        Check.by(Check.TERMS, "with blanks (9, 10, 13, 32) between or not");
        String[] tokens = {"house", "a", "1", "2", ";", "grows", "=", "if", "1", "<", "(", "2", ")", "then", "3", "*", "4", "else", "5", ";"};
        for (String blank : new String[] {" ", "\t", "\n", "\r", " \t\n\r", "     "}) {
            Check.good(blank + String.join(blank, tokens) + blank);
        }
        HairRope x = Check.ropeOf("house a1 2;grows=if 1<(2)then 3*4else 5;costs=5-1;weakens=7*6/2;");
        Check.due("GROWS of a text without blanks", x.house(0, 5), 12);
        Check.due("COSTS of a text without blanks", x.house(0, 7), 4);
        Check.due("WEAKENS of a text without blanks", x.house(0, 6), 21);
        for (int none : new int[] {0, 1, 8, 11, 12, 14, 28, 31, 127, 128, 133, 160, 255}) {
            Check.fault("well 5" + (char) none + ";", 1, 6);
        }
    }

    private static void tokensOfEachByte() {
        Check.by(Check.TERMS, "A longer one, all else, is no TOKEN.");
        for (int b = 0; b < 256; b++) {
            String s = String.valueOf((char) b);
            boolean blank = b == 9 || b == 10 || b == 13 || b == 32;
            boolean letter = b >= 97 && b <= 122;
            boolean digit = b >= 48 && b <= 57;
            Check.fault(s + "well 5;", blank ? 0 : 1, blank ? NONE : 0);
            Check.fault("well 5;" + s, blank ? 0 : 1, blank ? NONE : 7);
            Check.fault("well" + s + "5;", blank || digit ? 0 : 1, blank || digit ? NONE : letter ? 0 : 4);
            Check.fault("well 1" + s + "2;", digit ? 5 : 1, digit ? 5 : blank || b == ';' ? 7 : 6);
            Check.fault("house a" + s + "c 1 2;", letter ? 0 : 1, letter ? NONE : blank || digit ? 8 : 7);
        }
    }

    private static void names() {
        Check.by(Check.TERMS, "NAMES (letters a .. z, 8 at most, none of the words in quotes)");
        Check.good("house a 1 1;");
        Check.good("house z 1 1;");
        Check.good("house abcdefgh 1 1;house stuvwxyz 1 1;house zzzzzzzz 1 1;");
        Check.fault("house abcdefghi 1 1;", 1, 6);
        Check.fault("house zzzzzzzzz 1 1;", 1, 6);
        Check.fault("house a`b 1 1;", 1, 7);
        Check.fault("house a{b 1 1;", 1, 7);
        Check.fault("house A 1 1;", 1, 6);
        Check.fault("house Z 1 1;", 1, 6);
        Check.good(TWO + "house abcdefgh 1 1;likes a abcdefgh 1;");
        // Names are told apart by each of their letters.
        Check.good("house aaaaaaaa 1 1;house aaaaaaab 1 1;house baaaaaaa 1 1;house aaabaaaa 1 1;house aaaaaaa 1 1;");
        Check.fault("house aaaaaaaa 1 1;likes aaaaaaab aaaaaaaa 1;", 4, 25);
        Check.fault("house aaaaaaaa 1 1;likes baaaaaaa aaaaaaaa 1;", 4, 25);
    }

    private static void namesQuoted() {
        Check.by(Check.TERMS, "none of the words in quotes");
        for (String word : QUOTED) {
            Check.fault("house " + word + " 1 1;", 1, 6);
            Check.fault(TWO + "likes " + word + " a 1;", 1, TWO.length() + 6);
            Check.fault(TWO + "likes a " + word + " 1;", 1, TWO.length() + 8);
            if (word.length() < 8) {
                Check.good("house " + word + "x 1 1;");
                Check.good("house x" + word + " 1 1;");
            }
            Check.good("house " + word.substring(1) + "q 1 1;");
        }
        for (String free : new String[] {"text", "tell", "law", "e", "part", "unit", "var", "name", "int", "rope", "none", "feed"}) {
            Check.good("house " + free + " 1 1;");
        }
    }

    private static void ints() {
        Check.by(Check.TERMS, "INTS (1 to 4 digits)");
        String[] wells = {"5", "05", "005", "0005", "99", "0099"};
        int[] want = {5, 5, 5, 5, 99, 99};
        for (int i = 0; i < wells.length; i++) {
            Check.due("WELL of " + wells[i], Check.ropeOf("well " + wells[i] + ";").count(1), want[i]);
        }
        Check.fault("well 00005;", 1, 5);
        Check.fault("well 12345;", 1, 5);
        Check.fault("well 99999999999999999999;", 1, 5);
        Check.fault("well 4294967301;", 1, 5);
        Check.good("seed 9999;");
        Check.good("seed 0000;");
        Check.fault("seed 10000;", 1, 5);
        Check.good("grows = 9999;");
        Check.fault("grows = 10000;", 1, 8);
        Check.fault("well 5/;", 1, 6);
        Check.fault("well 5:", 1, 6);
    }

    private static void signs() {
        Check.by(Check.TERMS, "SIGNS ; = + - * / < ( ) .");
        Check.good("grows=if(1)<2then 3+4-5*6/7else 8;");
        for (String none : new String[] {".", ",", ":", ">", "%", "!", "&", "|", "^", "[", "]", "{", "}", "\"", "'", "_", "#", "?"}) {
            Check.fault("grows = 1" + none + "2;", 1, 9);
            Check.fault(none, 1, 0);
        }
        Check.fault("grows = 1 <= 2;", 1, 10);
        Check.fault("grows == 1;", 1, 7);
        Check.fault("grows = 1 ** 2;", 1, 11);
    }

    private static void longerOnes() {
        Check.by(Check.TERMS, "A longer one, all else, is no TOKEN.");
        Check.fault("abcdefghi", 1, 0);
        Check.fault("well 5;housewell", 1, 7);
        Check.fault("grows = 1 + 12345;", 1, 12);
        Check.fault("grows = abcdefghijklmnopqrstuvwxyz;", 1, 8);
        Check.fault("house a 12345678901234567890 1;", 1, 8);
        // Not cut into shorter ones that would do.
        Check.fault("wellwellwell 5;", 1, 0);
        Check.fault("house housewell 1 1;", 1, 6);
    }

    // ---- the grammar

    /** With any TOKEN left out, or told once more, a text has its FAULT just there. */
    private static void grammarTells() {
        Check.by(Check.TERMS, "TELL: 'house' NAME INT INT ';' | 'likes' NAME NAME INT ';' | 'well' INT ';' | 'water' INT ';' |"
            + " ('grows' | 'weakens' | 'joins' | 'costs') LAW ';' | 'blight' INT ';' | 'seed' INT ';'.");
        String[] tells = {"house c 1 1 ;", "likes a b 1 ;", "well 1 ;", "water 1 ;", "blight 1 ;", "seed 1 ;", "grows = 1 ;",
            "weakens = 1 ;", "joins = 1 ;", "costs = 1 ;"};
        for (String tell : tells) {
            Check.good(TWO + tell);
            Check.good(TWO + tell + " " + tell.replace("house c", "house d"));
            List<String> right = List.of(tell.split(" "));
            for (int i = 0; i < right.size(); i++) {
                List<String> without = new ArrayList<>(right);
                without.remove(i);
                firstOddOne(without, right);
                List<String> twice = new ArrayList<>(right);
                twice.add(i, right.get(i));
                firstOddOne(twice, right);
            }
        }
        Check.by(Check.TERMS, "text: {TELL}.");
        Check.good("");
        Check.good("well 1;");
        Check.good("well 1;water 2;well 3;");
        Check.fault("well 1;;", 1, 7);
        Check.fault(";", 1, 0);
    }

    /** SYNTAX is at the first TOKEN that is of another kind than the right one in its place, or at the text's end. */
    private static void firstOddOne(List<String> is, List<String> right) {
        int at = TWO.length();
        for (int i = 0; i < is.size(); i++) {
            if (i >= right.size() || !kind(is.get(i)).equals(kind(right.get(i)))) {
                break;
            }
            at += is.get(i).length() + 1;
        }
        String text = TWO + String.join(" ", is);
        Check.fault(text, 1, Math.min(at, text.length()));
    }

    private static String kind(String token) {
        return token.matches("[0-9]+") ? "INT" : token.matches("[abc]") ? "NAME" : token;
    }

    private static void grammarLaws() {
        Check.by(Check.TERMS, "LAW: '=' {'if' E '<' E 'then' E 'else'} E.");
        Check.good("grows = 1;");
        Check.good("grows = if 1 < 2 then 3 else 4;");
        Check.good("grows = if 1 < 2 then 3 else if 4 < 5 then 6 else 7;");
        String[] tokens = "= if 1 < 2 then 3 else 4 ;".split(" ");
        int[] without = {6, 10, 11, 13, 15, 17, 22, 24, 29, 30};
        for (int i = 0; i < tokens.length; i++) {
            StringBuilder s = new StringBuilder("grows");
            for (int j = 0; j < tokens.length; j++) {
                s.append(j == i ? "" : " " + tokens[j]);
            }
            Check.fault(s.toString(), 1, without[i]);
        }
        Check.fault("grows = if 1 < 2 then 3 else 4 else 5;", 1, 31);
        Check.fault("grows = if 1 < 2 then 3 else if 4;", 1, 33);
        Check.fault("grows = if 1 < 2 then if 1 < 2 then 3 else 4 else 5;", 1, 22);
        Check.fault("grows = if if 1 < 2 then 3 else 4 < 5 then 6 else 7;", 1, 11);
        Check.fault("grows = 1 < 2;", 1, 10);
        Check.fault("grows = then 2;", 1, 8);
    }

    private static void grammarExpressions() {
        Check.by(Check.TERMS, "E: PART {('+' | '-') PART}. PART: UNIT {('*' | '/') UNIT}. UNIT: INT | VAR | '(' E ')'.");
        Check.good("grows = 1+2-3*4/5+(6-7)*(8/9);");
        for (String sign : new String[] {"+", "-", "*", "/"}) {
            Check.good("grows = 1 " + sign + " hair " + sign + " (2);");
            Check.fault("grows = " + sign + " 1;", 1, 8);
            Check.fault("grows = 1 " + sign + ";", 1, 11);
            Check.fault("grows = 1 " + sign + " " + sign + " 2;", 1, 12);
            Check.fault("grows = (" + sign + "1);", 1, 9);
            Check.fault("grows = (1" + sign + ");", 1, 11);
        }
        Check.fault("grows = ();", 1, 9);
        Check.fault("grows = (1;", 1, 10);
        Check.fault("grows = 1);", 1, 9);
        Check.fault("grows = (1));", 1, 11);
        Check.fault("grows = (1)(2);", 1, 11);
        Check.fault("grows = 1 2;", 1, 10);
        Check.fault("grows = hair hair;", 1, 13);
        Check.fault("grows = (1 < 2);", 1, 11);
        Check.fault("grows = 1 ;hair;", 1, 11);
    }

    private static void grammarVars() {
        Check.by(Check.TERMS, "VAR: 'hair' | 'strong' | 'like' | 'year' | 'place' | 'which' | 'spliced' | 'given' | 'other'.");
        for (String law : new String[] {"grows", "weakens", "joins", "costs"}) {
            for (String var : VARS) {
                Check.good(law + "=" + var + ";");
            }
            for (String word : QUOTED) {
                boolean var = String.join(" ", VARS).matches(".*\\b" + word + "\\b.*");
                if (!var && !word.equals("if")) {
                    Check.fault(law + "=" + word + ";", 1, law.length() + 1);
                }
            }
            Check.fault("house a 1 1;" + law + "=a;", 1, 12 + law.length() + 1);
        }
    }

    // ---- what is told

    private static void housesNumbered() {
        Check.by(Check.TERMS, "HOUSES, 6 at most (a NAME, HAIR 0 .. 20, how STRONG 1 .. 99), numbered from 0 on as they stand.");
        HairRope x = Check.ropeOf("house f 6 16;well 9;house e 5 15;house d 4 14;likes f e 1;house c 3 13;house b 2 12;house a 1 11;");
        Check.due("HOUSES", x.count(0), 6);
        for (int house = 0; house < 6; house++) {
            Check.due("HAIR of " + house, x.house(house, 0), 6 - house);
            Check.due("STRONG of " + house, x.house(house, 1), 16 - house);
        }
        Check.due("house(6, 0)", x.house(6, 0), NONE);
        Check.due("likes(0, 1)", x.likes(0, 1), 1);
        Check.fault(SIX + "house g 1 1;", 2, SIX.length());
    }

    private static void housesBounds() {
        Check.by(Check.TERMS, "(a NAME, HAIR 0 .. 20, how STRONG 1 .. 99)");
        int[][] good = {{0, 1}, {0, 99}, {20, 1}, {20, 99}};
        for (int[] g : good) {
            HairRope x = Check.ropeOf("house a " + g[0] + " " + g[1] + ";");
            Check.due("HAIR", x.house(0, 0), g[0]);
            Check.due("STRONG", x.house(0, 1), g[1]);
        }
        Check.fault("house a 21 1;", 5, 8);
        Check.fault("house a 9999 1;", 5, 8);
        Check.fault("house a 0 0;", 5, 10);
        Check.fault("house a 0 100;", 5, 10);
        Check.fault("house a 20 9999;", 5, 11);
        Check.fault("house a 21 100;", 5, 8);
    }

    private static void likesBounds() {
        Check.by(Check.TERMS, "LIKES, 20 at most: of two HOUSES, unlike, both ways about 0 .. 9 (5, if not told; the last one of both).");
        for (int like = 0; like <= 9; like++) {
            Check.due("LIKES of " + like, Check.ropeOf(TWO + "likes a b " + like + ";").likes(0, 1), like);
        }
        Check.fault(TWO + "likes a b 10;", 5, TWO.length() + 10);
        Check.fault(TWO + "likes a b 9999;", 5, TWO.length() + 10);
        Check.fault(TWO + "likes b b 5;", 3, TWO.length() + 8);
        Check.due("LIKES untold", Check.ropeOf(TWO).likes(0, 1), 5);
        Check.due("LIKES of others alone", Check.ropeOf(TWO + "house c 1 1;likes a b 1;likes b c 2;").likes(0, 2), 5);
        String twenty = "likes a b 1;".repeat(19) + "likes a b 7;";
        Check.due("the last one of 20", Check.ropeOf(TWO + twenty).likes(0, 1), 7);
        Check.fault(TWO + twenty + "likes a b 7;", 2, TWO.length() + 20 * 12);
    }

    private static void likesBothWays() {
        Check.by(Check.TERMS, "both ways about 0 .. 9 (5, if not told; the last one of both)");
        HairRope x = Check.ropeOf(TWO + "house c 1 1;likes a b 3;likes b a 8;likes c b 4;likes a c 0;likes c a 9;likes a c 1;");
        int[][] want = {{0, 1, 8}, {1, 0, 8}, {1, 2, 4}, {2, 1, 4}, {0, 2, 1}, {2, 0, 1}};
        for (int[] w : want) {
            Check.due("likes(" + w[0] + ", " + w[1] + ")", x.likes(w[0], w[1]), w[2]);
            Check.due("joins(" + w[0] + ", " + w[1] + ")", x.joins(w[0], w[1]), 10 * w[2]);
        }
    }

    private static void wellAndWater() {
        Check.by(Check.TERMS, "WELL: how deep 1 .. 99 (20), WATER: what it is worth 0 .. 99 (10): the last one.");
        HairRope x = Check.ropeOf("");
        Check.due("WELL untold", x.count(1), 20);
        Check.due("WATER untold", x.count(13), 10);
        Check.due("WELL of 1", Check.ropeOf("well 1;").count(1), 1);
        Check.due("WELL of 99", Check.ropeOf("well 99;").count(1), 99);
        Check.fault("well 0;", 5, 5);
        Check.fault("well 100;", 5, 5);
        Check.due("WATER of 0", Check.ropeOf("water 0;").count(13), 0);
        Check.due("WATER of 99", Check.ropeOf("water 99;").count(13), 99);
        Check.fault("water 100;", 5, 6);
        x = Check.ropeOf("well 7;water 8;well 3;water 2;well 5;water 6;");
        Check.due("the last WELL", x.count(1), 5);
        Check.due("the last WATER", x.count(13), 6);
    }

    private static void lawsUntold() {
        Check.by(Check.TERMS, "LAWS: GROWS (1), WEAKENS (1), JOINS (like * 10), COSTS (hair), if not told; the last one.");
        String two = "house a 13 1;house b 7 1;likes a b 4;";
        String[] laws = {"grows", "weakens", "joins", "costs"};
        for (int told = -1; told < laws.length; told++) {
            HairRope x = Check.ropeOf(two + (told < 0 ? "" : laws[told] + "=77;"));
            Check.due("GROWS", x.house(0, 5), told == 0 ? 77 : 1);
            Check.due("WEAKENS", x.house(0, 6), told == 1 ? 77 : 1);
            Check.due("JOINS", x.joins(0, 1), told == 2 ? 77 : 40);
            Check.due("COSTS", x.house(0, 7), told == 3 ? 77 : 13);
        }
        HairRope x = Check.ropeOf(two + "grows=2;joins=6;costs=8;weakens=4;costs=9;joins=7;weakens=5;grows=3;");
        Check.due("the last GROWS", x.house(0, 5), 3);
        Check.due("the last WEAKENS", x.house(0, 6), 5);
        Check.due("the last JOINS", x.joins(0, 1), 7);
        Check.due("the last COSTS", x.house(0, 7), 9);
    }

    private static void blightAndSeed() {
        Check.by(Check.TERMS, "BLIGHT: in how many of 100 cases 0 .. 100 (0), SEED 0 .. 9999 (0): the last one.");
        String house = "house a 20 9;";
        Check.good("blight 0;blight 100;seed 0;seed 9999;");
        Check.fault("blight 101;", 5, 7);
        Check.fault("seed 10000;", 1, 5);
        Check.due("no BLIGHT untold", Check.ropeOf(house).then(0, 1, 0), 21);
        Check.due("BLIGHT of 0", Check.ropeOf(house + "blight 0;").then(0, 1, 0), 21);
        Check.due("BLIGHT of 100", Check.ropeOf(house + "blight 100;").then(0, 1, 0), 10);
        // LOT 100 of SEED 0 is 69 there, of SEED 9999 it is 69, too; behind a YEAR they are 95 and 47.
        Check.due("SEED untold", Check.ropeOf(house + "blight 70;").then(0, 1, 0), 10);
        Check.due("SEED untold", Check.ropeOf(house + "blight 69;").then(0, 1, 0), 21);
        Check.due("SEED untold, 2 YEARS", Check.ropeOf(house + "blight 70;").then(0, 2, 0), 11);
        Check.due("SEED 0, 2 YEARS", Check.ropeOf(house + "blight 70;seed 0;").then(0, 2, 0), 11);
        Check.due("SEED 9999, 2 YEARS", Check.ropeOf(house + "blight 70;seed 9999;").then(0, 2, 0), 5);
        Check.due("the last BLIGHT", Check.ropeOf(house + "blight 100;blight 0;").then(0, 1, 0), 21);
        Check.due("the last BLIGHT", Check.ropeOf(house + "blight 0;blight 100;").then(0, 1, 0), 10);
        Check.due("the last SEED", Check.ropeOf(house + "blight 70;seed 9999;seed 0;").then(0, 2, 0), 11);
        Check.due("the last SEED", Check.ropeOf(house + "blight 70;seed 0;seed 9999;").then(0, 2, 0), 5);
    }

    // ---- FAULTS

    private static void faultsFirstByPlace() {
        Check.by(Check.TERMS, "FAULTS of a text, the first by its place (a byte; the text's end: its length), of one place the least");
        Check.fault("? " + SIX + "house g 1 1;", 1, 0);
        Check.fault(SIX + "house g 1 1; ?", 2, SIX.length());
        Check.fault("grows=1 2;grows=(((((((1)))))));", 1, 8);
        Check.fault("grows=(((((((1)))))));grows=1 2;", 2, 12);
        Check.fault("house a 21 0;", 5, 8);
        Check.fault("well 0;likes a b 3;", 5, 5);
        Check.fault("likes a b 10;well 0;", 4, 6);
        Check.fault(TWO + "likes a a 10;", 3, TWO.length() + 8);
        Check.fault(TWO + "likes q a 10;", 4, TWO.length() + 6);
        Check.fault("well 100;" + TWO + "house a 1 1;", 5, 5);
        Check.fault(TWO + "house a 1 1;well 100;", 3, TWO.length() + 6);
    }

    private static void faultsAtTheEnd() {
        Check.by(Check.TERMS, "(a byte; the text's end: its length)");
        String text = "house a 1 2;";
        for (int length = 1; length < text.length(); length++) {
            String begun = text.substring(0, length);
            boolean cut = length < 5;
            Check.fault(begun, 1, cut ? 0 : length);
            Check.fault(begun + "  ", 1, cut ? 0 : length + 2);
        }
        Check.fault("grows = if 1 < 2 then", 1, 21);
        Check.fault("grows = (((", 1, 11);
        Check.fault("well 5;well 5\n", 1, 14);
    }

    private static void faultsOfOnePlace() {
        Check.by(Check.TERMS, "of one place the least");
        // At the 401st TOKEN, which would be a FAULT by itself, SYNTAX is less than ROOM.
        for (String bad : new String[] {"?", ";", "5", "a", "hair", "abcdefghi", "12345", "(", "if"}) {
            Check.fault(TOKENS_400 + bad, 1, 800);
        }
        for (String fine : new String[] {"well", "house", "likes", "grows", "seed"}) {
            Check.fault(TOKENS_400 + fine, 2, 800);
        }
        String text399 = "grows=1;".repeat(99) + "well 5;";
        Check.good(text399);
        Check.fault(text399 + "well 5;", 2, text399.length() + 5);
        Check.fault(text399 + "well ;", 1, text399.length() + 5);
        Check.fault(text399 + "well", 1, text399.length() + 4);
        Check.fault(SIX + "house", 2, SIX.length());
        Check.fault("grows=" + IF.repeat(4) + "if", 2, 6 + 4 * IF.length());
        Check.fault("grows=(((((((", 2, 12);
    }

    private static void syntaxAtTheToken() {
        Check.by(Check.TERMS, "1 SYNTAX: a TOKEN, or what is none, with which no text goes on.");
        Check.fault("house  well 1 1;", 1, 7);
        Check.fault("house  abcdefghi 1 1;", 1, 7);
        Check.fault("house a\n?\n1;", 1, 8);
        Check.fault("well 5; 6", 1, 8);
        Check.fault("well 5; x 6;", 1, 8);
        Check.fault("well 5; hair 6;", 1, 8);
        Check.fault("grows = 1 then 2;", 1, 10);
        // Not earlier than there: what stands ahead can go on.
        Check.fault("house if", 1, 6);
        Check.fault("grows = if 1 + (2 * 3) then", 1, 23);
    }

    private static void roomOfTokens() {
        Check.by(Check.TERMS, "2 ROOM: a 401st TOKEN");
        Check.good(TOKENS_400);
        Check.fault(TOKENS_400 + "grows=1;", 2, 800);
        Check.fault(TOKENS_400 + "  \n grows", 2, 804);
        Check.good("grows=" + "1+".repeat(198) + "1;");
        Check.good("grows=" + "1+".repeat(197) + "(1);");
        Check.fault("grows=" + "1+".repeat(198) + "1 ;?", 1, 405);
        // The LAW's last ; is the 401st TOKEN.
        Check.fault("grows=" + "1+".repeat(197) + "(1+1);", 2, 404);
        Check.fault("grows=" + "1+".repeat(199) + "1;", 2, 404);
        Check.fault("grows=" + "1*".repeat(199) + "1;", 2, 404);
        Check.fault("well 5;".repeat(150), 2, 133 * 7 + 5);
        HairRope x = Check.ropeOf("house a 1 1;costs=" + "1+".repeat(64) + "1;grows=" + "1+".repeat(97) + "1;");
        Check.due("the sum of 98", x.house(0, 5), 98);
        Check.due("the sum of 65", x.house(0, 7), 65);
        // Two HOUSES and one LAW of 390 TOKENS: its last number counts, too.
        String law = "house a 1 1;house b 1 1;grows=" + "0+".repeat(193) + "7;";
        Check.due("a LAW that fills the room", Check.ropeOf(law).house(1, 5), 7);
        Check.fault(law + "well", 2, law.length());
    }

    private static void roomOfSorts() {
        Check.by(Check.TERMS, "one more of a sort than told (at its first TOKEN)");
        Check.good(SIX);
        Check.fault(SIX + "  house g 1 1;", 2, SIX.length() + 2);
        Check.fault(SIX + "house a 21 0;", 2, SIX.length());
        Check.fault("house a 1 1;" + SIX, 2, 12 + 5 * 12);
        Check.good(TWO + "likes a b 1;".repeat(20));
        Check.fault(TWO + "likes a b 1;".repeat(20) + " likes a b 1;", 2, TWO.length() + 241);
        Check.fault(TWO + "likes q q 10;".repeat(21), 2, TWO.length() + 20 * 13);
        Check.good("well 5;".repeat(133));
        Check.good("water 5;".repeat(133));
        Check.good("blight 5;".repeat(133));
        Check.good("seed 5;".repeat(133));
        Check.good("joins=5;".repeat(100));
    }

    private static void roomOfIfs() {
        Check.by(Check.TERMS, "a 5th if of a LAW (at it)");
        Check.good("grows=" + IF.repeat(4) + "1;");
        Check.fault("grows=" + IF.repeat(5) + "1;", 2, 6 + 4 * IF.length());
        for (String law : new String[] {"grows", "weakens", "joins", "costs"}) {
            Check.good((law + "=" + IF.repeat(4) + "1;").repeat(3));
            Check.fault(law + "=1;" + law + "=" + IF.repeat(5) + "1;", 2, 2 * law.length() + 4 + 4 * IF.length());
        }
        Check.good("grows=" + IF.repeat(4) + "1;weakens=" + IF + "1;");
    }

    private static void roomOfBrackets() {
        Check.by(Check.TERMS, "a 7th ( within one another (at it)");
        Check.good("grows=((((((1))))));");
        Check.fault("grows=(((((((1)))))));", 2, 12);
        Check.good("grows=((((((1))))))+((((((2))))))*((((((3))))));");
        Check.good("grows=" + "(1)+".repeat(20) + "1;");
        Check.good("grows=(1+(1+(1+(1+(1+(1))+(1)+(1))+(1))+(1))+(1))+(1);");
        Check.fault("grows=(1+(1+(1+(1+(1+(1+(1)))))));", 2, 24);
        Check.fault("grows=(1)+(1+(1+(1+(1+(1+(1+(1)))))));", 2, 28);
        Check.fault("grows=((((((1)+1))))+(((2))));".replace("(((2)))", "((((((2))))))"), 2, 26);
        String six = "((((((1))))))";
        Check.good("grows=if " + six + "<" + six + " then " + six + " else " + six + ";");
        Check.fault("grows=if (" + six + ")<1 then 1 else 1;", 2, 15);
        Check.fault("grows=if 1<(" + six + ") then 1 else 1;", 2, 17);
        Check.fault("grows=if 1<1 then (" + six + ") else 1;", 2, 24);
        Check.fault("grows=if 1<1 then 1 else (" + six + ");", 2, 31);
    }

    private static void othersOnlyWithoutSyntaxOrRoom() {
        Check.by(Check.TERMS, "If there is none, likewise:");
        String[] others = {TWO + "house a 1 1;", TWO + "likes a a 5;", "likes a b 5;", "well 0;", "house a 21 1;"};
        int[] numbers = {3, 3, 4, 5, 5};
        int[] places = {TWO.length() + 6, TWO.length() + 8, 6, 5, 8};
        for (int i = 0; i < others.length; i++) {
            Check.fault(others[i] + "well 5;", numbers[i], places[i]);
            Check.fault(others[i] + "well", 1, others[i].length() + 4);
            Check.fault(others[i] + "?", 1, others[i].length());
            Check.fault(others[i] + "costs=(((((((1)))))));", 2, others[i].length() + 12);
            Check.fault(others[i] + "costs=" + IF.repeat(5) + "1;", 2, others[i].length() + 6 + 4 * IF.length());
        }
    }

    private static void twice() {
        Check.by(Check.TERMS, "3 TWICE: a NAME told already; (at LIKES' second NAME) one HOUSE twice.");
        Check.fault("house a 1 1;house a 1 1;", 3, 18);
        Check.fault("house a 1 1;house  a 2 2;", 3, 19);
        Check.fault(TWO + "house c 1 1;house b 1 1;", 3, TWO.length() + 18);
        Check.fault("house abcdefgh 1 1;house abcdefgh 1 1;", 3, 25);
        Check.good("house a 1 1;house aa 1 1;house aaa 1 1;");
        Check.fault(TWO + "likes a a 5;", 3, TWO.length() + 8);
        Check.fault(TWO + "likes b  b 5;", 3, TWO.length() + 9);
        Check.good(TWO + "likes a b 5;likes b a 5;likes a b 5;");
        Check.good("well 1;well 1;grows=1;grows=1;seed 1;seed 1;");
    }

    private static void unknown() {
        Check.by(Check.TERMS, "4 NAME: (at it) no such HOUSE told ahead (a NAME told more than once is that of the first one).");
        Check.fault("likes a b 5;", 4, 6);
        Check.fault(TWO + "likes c a 5;", 4, TWO.length() + 6);
        Check.fault(TWO + "likes a c 5;", 4, TWO.length() + 8);
        Check.fault(TWO + "likes c c 5;", 4, TWO.length() + 6);
        Check.fault("likes a b 5;" + TWO, 4, 6);
        Check.fault("house a 1 1;likes a b 5;house b 1 1;", 4, 20);
        Check.good("house a 1 1;house b 1 1;likes a b 5;house c 1 1;likes c a 1;");
        Check.fault("house a 1 1;house ab 1 1;likes ab b 5;", 4, 34);
        Check.fault(TWO + "house a 1 1;likes a a 5;likes a b 5;", 3, TWO.length() + 6);
        HairRope x = Check.ropeOf(TWO);
        Check.due("read(): HOUSES of the text ahead do not count", Check.read(x, "likes a b 5;"), 4);
    }

    private static void wrong() {
        Check.by(Check.TERMS, "5 WRONG (at the INT): a number not as told above.");
        Check.fault("house a  21 1;", 5, 9);
        Check.fault("house a 1  100;", 5, 11);
        Check.fault("house a 1 0;", 5, 10);
        Check.fault(TWO + "likes a b  10;", 5, TWO.length() + 11);
        Check.fault("well  0;", 5, 6);
        Check.fault("well  100;", 5, 6);
        Check.fault("water  100;", 5, 7);
        Check.fault("blight  101;", 5, 8);
        Check.good("seed 9999;grows = 0 + 9999;");
        Check.fault("well 5;well 0;well 5;", 5, 12);
        Check.fault("well 0000;", 5, 5);
    }

    // ---- what a text changes

    private static HairRope busy() {
        HairRope x = Check.ropeOf("house a 9 50;house b 7 40;house c 5 30;likes a b 8;well 5;water 3;blight 100;seed 4;grows=2;");
        x.splice(0);
        x.splice(1);
        x.haul(6);
        x.unsplice();
        x.hold(1);
        x.years(2);
        x.tell(0, 45, true);
        x.tell(1, 35, false);
        return x;
    }

    private static void faultChangesNothing() {
        Check.by(Check.TERMS, "A text with a FAULT changes nothing but the tape");
        String other = "house q 3 3;house r 4 4;likes q r 1;well 77;water 7;blight 1;seed 9;grows=5;weakens=6;joins=1;costs=9;";
        String[] faults = {other + "?", other + "grows=(((((((1)))))));", other + "house q 1 1;", other + "likes q z 1;", other + "well 0;"};
        for (int i = 0; i < faults.length; i++) {
            HairRope x = busy();
            HairRope y = busy();
            Check.due("read() of " + faults[i], Check.read(x, faults[i]), i + 1);
            Trace.same(x, y, "FAULT " + (i + 1));
        }
        Check.by(Check.TERMS, "nothing but the tape");
        HairRope x = busy();
        Check.read(x, "well 0;");
        Check.due("count(8)", x.count(8), 0);
    }

    private static void goodTextBeginsAnew() {
        for (String text : new String[] {"", "house z 4 30;", "house c 1 2;house b 3 4;house a 5 6;well 9;"}) {
            HairRope x = busy();
            Check.by(Check.TERMS, "else it is in place of the one ahead: year 0, no ROPE, nothing drawn, nothing given;"
                + " nothing can be undone, nothing is TOLD, SLOTS hold nothing.");
            Check.due("year ahead", x.count(2), 2);
            Check.due("drawn ahead", x.count(5), 6);
            Check.due("read()", Check.read(x, text), 0);
            Check.due("year 0", x.count(2), 0);
            Check.due("no ROPE", x.count(3), 0);
            Check.due("no ROPE is LONG", x.count(4), 0);
            Check.due("at(0)", x.at(0), NONE);
            Check.due("nothing drawn", x.count(5), 0);
            Check.due("nothing given", x.count(14), 0);
            Check.due("none can be undone", x.count(9), 0);
            Check.due("undo()", x.undo(), false);
            Check.due("none is TOLD", x.count(10), 0);
            Check.due("forget()", x.forget(), 0);
            Check.due("no SLOT", x.count(11), 0);
            Check.due("restore(1)", x.restore(1), false);
            Trace.same(x, Check.ropeOf(text), "a text behind another one");
        }
    }

    /** As full a text as may be, again and again, with FAULTS between; then one that tells nothing, and one of two HOUSES. */
    private static void nothingIsLeftOfTextsAhead() {
        Check.by(Check.TERMS, "else it is in place of the one ahead");
        String full = SIX + "likes a b 1;".repeat(20) + "well 9;water 9;blight 99;seed 7;grows=" + "7*".repeat(38) + "1;weakens=9;joins=9;costs=9;";
        HairRope x = new HairRope();
        for (int i = 0; i < 6; i++) {
            Check.due("read() of a full text", Check.read(x, full), 0);
            Check.due("HOUSES", x.count(0), 6);
            Check.due("read() of a full text with a FAULT", Check.read(x, full + "well 0;"), 5);
        }
        for (int i = 0; i < 2; i++) {
            Check.due("read()", Check.read(x, "house b 20 9;house a 19 8;"), 0);
            int[] counts = {2, 20, 0, 0, 0, 0, 39, 0, 0, 0, 0, 0, 0, 10, 0, 0, 0};
            for (int what = 0; what < counts.length; what++) {
                Check.due("count(" + what + ")", x.count(what), counts[what]);
            }
            Check.due("LIKES untold", x.likes(0, 1), 5);
            Check.due("JOINS untold", x.joins(0, 1), 50);
            int[] laws = {1, 1, 20};
            for (int what = 5; what <= 7; what++) {
                Check.due("house(0, " + what + ") untold", x.house(0, what), laws[what - 5]);
            }
            Check.due("no BLIGHT told", x.then(0, 1, 0), 21);
        }
        for (int i = 0; i < 2; i++) {
            // LOT 100 of SEED 0 is 69 there, of SEED 7 it is 9.
            Check.due("read()", Check.read(x, "house b 20 9;blight 69;"), 0);
            Check.due("no SEED told", x.then(0, 1, 0), 21);
        }
    }
}
