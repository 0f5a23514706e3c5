import java.lang.management.ManagementFactory;

/** That no call throws, whatever it is asked; that calls make no objects; that they need but little of the stack. */
public final class RoomTest {
    private static final int[] WILD = {Integer.MIN_VALUE, -1000, -3, -2, -1, 0, 1, 2, 5, 6, 7, 20, 60, 61, 99, 100, 999, 1000,
        Integer.MAX_VALUE - 1, Integer.MAX_VALUE};
    private static final int[] SOME = {Integer.MIN_VALUE, -1, 0, 1, 3, 6, 20, 60, 99, 1000, Integer.MAX_VALUE};
    private static final String SIX = "house a 20 99;house b 20 90;house c 20 80;house d 20 70;house e 1 99;house f 0 9;"
        + "well 99; joins = if like < 9 then 0 else 999; blight 40; seed 3; grows = if hair < 1 then 0 else hair / year;";
    private static final String DEEP = "house a 20 9; house b 20 9; grows = "
        + ("if " + bracketed("1") + " < " + bracketed("hair - 9 * 5") + " then 3 else ").repeat(4) + "1 + 2 * " + bracketed("3 + 4 * 5") + ";";

    private static String bracketed(String text) {
        return "(".repeat(6) + text + ")".repeat(6);
    }

    public static void main(String[] args) throws InterruptedException {
        for (String text : new String[] {"", "house a 5 5;", SIX, DEEP}) {
            wild(text);
        }
        feedsAnything();
        allocatesNothing();
        Thread.setDefaultUncaughtExceptionHandler((thread, thrown) -> Check.due(thread.getName() + " threw " + thrown, 1, 0));
        Thread small = new Thread(null, RoomTest::deep, "small", 1 << 18);
        small.start();
        small.join();
        Check.end();
    }

    private static HairRope ropeOf(String text) {
        HairRope x = Check.ropeOf(text);
        for (int i = 0; i < 5; i++) {
            x.splice(4 - i);
            x.tell(i, 20 * i, true);
            x.hold(i);
        }
        return x;
    }

    private static void wild(String text) {
        for (int a : WILD) {
            HairRope x = ropeOf(text);
            asks(x, a);
            for (int b : WILD) {
                asks(x, a, b);
                for (int c : SOME) {
                    asks(ropeOf(text), a, b, c);
                }
            }
            does(ropeOf(text), a);
        }
    }

    private static void asks(HairRope x, int a) {
        x.at(a);
        x.weakest(a);
        x.below(a);
        x.orders(a);
        x.needed(a);
        x.soon(a);
        x.rests(a);
        x.share(a);
        x.lasts(a);
        x.quarrel(a);
        x.greyest(a);
        x.count(a);
        x.peak();
        x.swap();
        x.pivots();
        x.most();
        x.place();
    }

    private static void asks(HairRope x, int a, int b) {
        x.house(a, b);
        x.likes(a, b);
        x.joins(a, b);
        x.fewest(a, b);
        x.peace(a, b);
    }

    private static void asks(HairRope x, int a, int b, int c) {
        x.harvest(a, b, c);
        x.then(a, b, c);
        x.rows(a, b, c);
        x.feel(a, b, c);
        x.tell(a, b, c > 0);
        x.year(a, b, c, 20);
        x.year(a, b, 60, c);
        x.year(0, a, b, c);
    }

    private static void does(HairRope x, int a) {
        for (int i = 0; i < 50; i++) {
            x.years(a);
            x.haul(a);
            x.splice(a);
            x.hold(a);
            x.restore(a);
            x.unsplice();
            x.feed(a, a, a, a, a);
            x.back(a);
            if (i % 3 == 0) {
                x.undo();
            }
        }
        x.forget();
        Check.due("nothing is TOLD", x.count(10), 0);
        x.read();
    }

    /** Each byte at each place of a text; each text's beginnings. */
    private static void feedsAnything() {
        String text = "house a 1 1;likes a b 2;grows=if 1<hair then(2)else 3*4;";
        for (int at = 0; at < text.length(); at++) {
            for (int b = 0; b < 256; b++) {
                HairRope x = new HairRope();
                int fault = Check.read(x, text.substring(0, at) + (char) b + text.substring(at + 1));
                boolean right = fault == 0 ? x.place() == HairRope.NONE : x.place() >= 0 && x.place() <= text.length();
                Check.due("byte " + b + " at " + at, fault >= 0 && fault <= 5 && right, true);
            }
        }
        HairRope x = new HairRope();
        for (String full : new String[] {"(".repeat(2000), "house ".repeat(333), "1".repeat(2000), "z".repeat(2000), ";".repeat(2000),
            "grows=" + "(".repeat(1994), "grows=" + "1*".repeat(997), " ".repeat(2000), "if ".repeat(666), "a1".repeat(1000)}) {
            int fault = Check.read(x, full);
            Check.due("read() of " + full.substring(0, 12), fault >= 0 && fault <= 2, true);
        }
    }

    private static void allocatesNothing() {
        com.sun.management.ThreadMXBean bean = (com.sun.management.ThreadMXBean) ManagementFactory.getThreadMXBean();
        long self = Thread.currentThread().getId();
        long least = Long.MAX_VALUE;
        for (int i = 0; i < 5; i++) {
            HairRope x = ropeOf(SIX);
            Check.feed(x, SIX);
            long before = bean.getThreadAllocatedBytes(self);
            allCalls(x);
            least = Math.min(least, bean.getThreadAllocatedBytes(self) - before);
        }
        Check.due("bytes of objects made in calls are next to none: " + least, least < 2000, true);
    }

    private static void allCalls(HairRope x) {
        for (int i = 0; i < 10; i++) {
            asks(x, i);
            asks(x, i, i % 3);
            asks(x, 1, 2, 1);
            x.years(1);
            x.haul(3);
            x.hold(1);
            x.undo();
            x.restore(1);
            x.splice(5);
            x.unsplice();
            x.forget();
        }
        x.back(1);
        x.read();
        x.place();
    }

    private static void deep() {
        HairRope x = ropeOf(DEEP);
        Check.due("GROWS through all its brackets", x.house(0, 5), 47);
        x = ropeOf(SIX + "likes a b 9;likes b c 9;likes c d 9;likes d e 9;");
        Check.due("orders(0) of five", x.orders(0), 0);
        x.peace(50, 0);
        x.rows(5, 6, 0);
        Check.due("calls stand", x.count(0), 6);
    }
}
