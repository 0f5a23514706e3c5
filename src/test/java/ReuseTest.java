import java.util.ArrayList;
import java.util.List;

/** One object that has read and been asked much answers as a new one does: nothing of what was is left over. */
public final class ReuseTest {
    private static final String[] TEXTS = {
        "house a 8 60; house b 6 40; house c 5 20; likes a b 9; likes a c 7; likes b c 2; well 12;",
        "house a 20 99; house b 19 98; house c 18 97; house d 17 96; house e 16 95; house f 15 94; well 30; water 40; blight 60;"
            + "seed 777; grows = hair * 2 + which; weakens = 3; joins = 500 - place * 7 + other; costs = 9 - which;"
            + "likes a b 1;likes a c 2;likes a d 3;likes a e 4;likes a f 0;likes b c 1;likes b d 2;likes b e 3;likes b f 4;"
            + "likes c d 9;likes c e 9;likes c f 9;likes d e 8;likes d f 7;likes e f 6;likes f a 9;likes e a 9;likes d a 9;likes c a 9;likes b a 9;",
        "house q 5 9;",
        "house a 2 50; house b 0 60; well 3; water 7; costs = like + other * 2 + 1;",
        "",
        "house f 9 30; house e 9 40; house d 9 50; well 25; joins = if like < 9 then 3 else 99; likes f e 9;",
        "costs = " + "hair * 1 + 0 - 0 + ".repeat(45) + "1;",
        "house a 7 7; grows = ((1 + 2) * (3 - hair)) / (year - 2);",
    };
    private static final String[] FAULTY = {"well 0;", "house a 21 1; house b 3 3; house c 4 4;", "likes a b 3;", "well 5; ?", "house"};

    public static void main(String[] args) {
        afterOtherTexts();
        inAnyOrder();
        namesOfOtherTexts();
        givingOfOtherTexts();
        Check.end();
    }

    /** Those who could give in the text ahead, for nothing, are not there any more. */
    private static void givingOfOtherTexts() {
        HairRope x = Check.ropeOf("house a 20 9;house b 20 9;house c 20 9;house d 20 9;house e 20 9;house f 20 9;costs=0;");
        Check.due("rests(0) of six, each of whom is ENOUGH alone", x.rests(0), 63);
        Check.due("pivots() of six", x.pivots(), 0);
        Check.due("read()", Check.read(x, "house a 1 9;"), 0);
        Check.due("rests(0) of one who is not ENOUGH", x.rests(0), 1);
        Check.due("rests(1) of one who is not ENOUGH", x.rests(1), 0);
        Check.due("pivots() of one", x.pivots(), 1);
    }

    private static void afterOtherTexts() {
        for (int i = 0; i < TEXTS.length; i++) {
            for (int j = 0; j < TEXTS.length; j++) {
                HairRope x = new HairRope();
                // The two Texts that are kept go about, so each is read twice.
                for (int k = 0; k < 2; k++) {
                    Check.read(x, TEXTS[i]);
                    busy(x);
                    Check.due("faulty text", Check.read(x, FAULTY[(i + j + k) % FAULTY.length]) != 0, true);
                    Check.due("its place", x.place() != HairRope.NONE, true);
                }
                Check.due("good text", Check.read(x, TEXTS[j]), 0);
                Check.due("place()", x.place(), HairRope.NONE);
                same(x, Check.ropeOf(TEXTS[j]), "text " + j + " behind text " + i);
            }
        }
    }

    private static void busy(HairRope x) {
        for (int house = 5; house >= 0; house--) {
            x.splice(house);
        }
        x.haul(3);
        x.years(3);
        x.tell(0, 50, true);
        x.tell(1, 50, false);
        x.hold(0);
        x.hold(2);
    }

    private static void same(HairRope x, HairRope y, String when) {
        for (int step = 0; step < 4; step++) {
            List<Integer> a = answers(x);
            List<Integer> b = answers(y);
            for (int i = 0; i < a.size(); i++) {
                Check.due(when + ", step " + step + ", answer " + i, a.get(i), b.get(i));
            }
            move(x, step);
            move(y, step);
        }
    }

    private static void move(HairRope x, int step) {
        if (step == 0) {
            x.splice(1);
            x.splice(0);
        } else if (step == 1) {
            x.years(2);
            x.tell(0, 40, true);
        } else {
            x.undo();
        }
    }

    private static List<Integer> answers(HairRope x) {
        List<Integer> all = new ArrayList<>();
        for (int what = 0; what <= 16; what++) {
            all.add(x.count(what));
        }
        for (int house = 0; house < 3; house++) {
            for (int what = 0; what <= 8; what++) {
                all.add(x.house(house, what));
            }
            all.add(x.likes(house, 1));
            all.add(x.joins(house, 1));
            all.add(x.share(house));
            all.add(x.then(house, 5, 0));
            all.add(x.year(house, 12, 4, 5));
            all.add(x.harvest(house, 7, 1));
        }
        for (int i = 0; i < 9; i++) {
            all.add(ask(x, i));
        }
        return all;
    }

    private static int ask(HairRope x, int i) {
        switch (i) {
            case 0: return x.orders(20);
            case 1: return x.peak() + 1000 * x.fewest(10, -1);
            case 2: return x.needed(10);
            case 3: return x.soon(50);
            case 4: return x.peace(30, 0) * 10000 + x.peace(30, 1);
            case 5: return x.rests(0) * 100 + x.rests(1);
            case 6: return x.pivots() + 64 * x.swap();
            case 7: return x.lasts(30) * 1000 + x.most();
            default: return x.rows(x.count(10), 2, 0) * 10000 + x.rows(0, 2, 1) * 10 + x.feel(0, 2, 50);
        }
    }

    /** Each two calls, one behind the other, answer as on a new object. */
    private static void inAnyOrder() {
        for (String text : TEXTS) {
            int[] alone = new int[9];
            for (int i = 0; i < 9; i++) {
                alone[i] = ask(Check.ropeOf(text), i);
            }
            HairRope x = Check.ropeOf(text);
            for (int i = 0; i < 9; i++) {
                for (int j = 0; j < 9; j++) {
                    Check.due("ask " + i, ask(x, i), alone[i]);
                    Check.due("ask " + j + " behind " + i, ask(x, j), alone[j]);
                }
            }
        }
    }

    private static void namesOfOtherTexts() {
        HairRope x = new HairRope();
        for (int i = 0; i < 4; i++) {
            Check.due("read()", Check.read(x, "house a 1 1; house b 1 1; house c 1 1; likes b c 3;"), 0);
        }
        Check.due("read()", Check.read(x, "house a 1 1; likes a b 3; house b 1 1;"), 4);
        Check.due("place()", x.place(), 21);
        Check.due("read()", Check.read(x, "house b 1 1; house a 1 1;"), 0);
        Check.due("likes(0, 1)", x.likes(0, 1), 5);
    }
}
