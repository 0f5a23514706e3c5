import java.util.ArrayList;
import java.util.List;
import java.util.Random;

/** Runs of calls on HairRope and on the Model, from fixed seeds; each answer must be the same. */
public final class ModelTest {
    private static final int CALLS = 512;
    private static final String[] VARS = {"hair", "strong", "like", "year", "place", "which", "spliced", "given", "other"};
    private static final String[] ODD = {";", "=", "+", "-", "*", "/", "<", "(", ")", "if", "then", "else", "house",
        "likes", "well", "7", "12345", "0000", "abcdefgh", "abcdefghi", "A", ".", "\u00e9", "\u0000", "hair", "grows", "seed", "x1"};

    private final Random random;
    private final HairRope rope = new HairRope();
    private final Model model = new Model();
    private final StringBuilder log = new StringBuilder();
    private int calls;

    private ModelTest(long seed) {
        random = new Random(seed);
    }

    public static void main(String[] args) throws InterruptedException {
        int runs = args.length > 0 ? Integer.parseInt(args[0]) : 400;
        int from = args.length > 1 ? Integer.parseInt(args[1]) : 0;
        Thread.setDefaultUncaughtExceptionHandler((thread, thrown) -> Check.due(thread.getName() + " threw " + thrown, 1, 0));
        // The Model's recogniser goes as deep as a text's brackets; HairRope itself needs no such stack.
        Thread all = new Thread(null, () -> runAll(from, runs), "model", 1L << 28);
        all.start();
        all.join();
        Check.end();
    }

    private static void runAll(int from, int runs) {
        for (int i = from; i < from + runs && Check.wrong() == 0; i++) {
            new ModelTest(i).run(i);
        }
    }

    private void run(int number) {
        while (calls < CALLS - 110) {
            if (calls == 0 || random.nextInt(25) == 0) {
                readSome();
            }
            if (Check.wrong() == 0) {
                ask();
            }
            if (Check.wrong() != 0) {
                System.out.println("run " + number + ":\n" + log);
                return;
            }
        }
    }

    private int upTo(int n) {
        return random.nextInt(n + 1);
    }

    private boolean chance(int percent) {
        return random.nextInt(100) < percent;
    }

    private void due(String call, int got, int want) {
        calls++;
        log.append(call).append(" -> ").append(got).append('\n');
        Check.due(call, got, want);
    }

    private void due(String call, boolean got, boolean want) {
        due(call, got ? 1 : 0, want ? 1 : 0);
    }

    // ---- texts

    private void readSome() {
        String text = text();
        if (chance(30)) {
            text = spoiled(text);
        }
        text = text.length() > 1980 ? text.substring(0, 1980) : text;
        byte[] full = Check.filledUp(text);
        log.append("text: ").append(text).append('\n');
        for (int i = 0; i < full.length; i += 20) {
            int[] f = new int[5];
            for (int j = 0; j < 5; j++) {
                f[j] = Check.four(full, i + 4 * j);
            }
            due("feed", rope.feed(f[0], f[1], f[2], f[3], f[4]), model.feed(f[0], f[1], f[2], f[3], f[4]));
        }
        int spare = full.length - text.length();
        due("back " + spare, rope.back(spare), model.back(spare));
        due("read", rope.read(), model.read());
        due("place", rope.place(), model.place());
    }

    private String text() {
        List<String> tells = new ArrayList<>();
        int houses = chance(2) ? 7 : chance(80) ? 2 + upTo(4) : upTo(6);
        boolean strong = chance(70);
        for (int i = 0; i < houses; i++) {
            int least = strong ? 40 : 1;
            tells.add("house " + (char) ('a' + i) + " " + upTo(20) + " " + (least + upTo(99 - least)) + ";");
        }
        int likes = chance(3) ? 21 : upTo(8);
        for (int i = 0; i < likes && houses > 1; i++) {
            int a = upTo(houses - 1);
            int b = (a + 1 + upTo(houses - 2)) % houses;
            tells.add("likes " + (char) ('a' + a) + " " + (char) ('a' + b) + " " + upTo(9) + ";");
        }
        if (chance(90)) {
            tells.add("well " + (chance(90) ? 1 + upTo(40) : upTo(100)) + ";");
        }
        if (chance(50)) {
            tells.add("water " + (chance(80) ? upTo(30) : upTo(100)) + ";");
        }
        if (chance(50)) {
            tells.add("blight " + upTo(101) + ";");
            tells.add("seed " + upTo(9999) + ";");
        }
        for (String law : new String[] {"grows", "weakens", "joins", "costs"}) {
            for (int i = chance(55) ? 1 + upTo(1) : 0; i > 0; i--) {
                tells.add(law + " =" + (chance(60) ? usual(law) : lawText()) + ";");
            }
        }
        return String.join(chance(50) ? " " : chance(50) ? "\n" : "", tells);
    }

    private String usual(String law) {
        switch (law) {
            case "grows": return new String[] {"2", "hair / 2 + 1", "if year < 5 then 0 else 3", "which", "strong / 9",
                "given * 2 + spliced", "if hair < 10 then 3 else if hair < 20 then 2 else 1"}[upTo(6)];
            case "weakens": return new String[] {"0", "2", "hair / 4", "place + 1", "if strong < 50 then 1 else 3",
                "1 / (year - 3)"}[upTo(5)];
            case "joins": return new String[] {"like * 9 + 30", "strong", "other + like", "if like < 6 then 0 else 90",
                "strong + other - place * 20", "like * like * 2", "100 - like * 9", "hair * 5 + like * 5",
                "if like < 9 then year * 4 else 80"}[upTo(8)];
            default: return new String[] {"3", "hair / 2", "which * 2", "strong / 10", "0", "like"}[upTo(5)];
        }
    }

    private String lawText() {
        StringBuilder s = new StringBuilder();
        for (int i = chance(5) ? 5 : upTo(3); i > 0; i--) {
            s.append(" if ").append(sum(2)).append(" < ").append(sum(2)).append(" then ").append(sum(2)).append(" else ");
        }
        return s.append(sum(3)).toString();
    }

    private String sum(int depth) {
        StringBuilder s = new StringBuilder(product(depth));
        for (int i = upTo(2); i > 0; i--) {
            s.append(chance(50) ? "+" : " - ").append(product(depth));
        }
        return s.toString();
    }

    private String product(int depth) {
        StringBuilder s = new StringBuilder(unit(depth));
        for (int i = chance(40) ? 1 + upTo(2) : 0; i > 0; i--) {
            s.append(chance(60) ? "*" : "/").append(unit(depth));
        }
        return s.toString();
    }

    private String unit(int depth) {
        if (depth > 0 && chance(25)) {
            return "(" + sum(depth - 1) + ")";
        }
        return chance(60) ? VARS[upTo(8)] : String.valueOf(chance(80) ? upTo(30) : upTo(9999));
    }

    /** A text with something wrong somewhere, most often. */
    private String spoiled(String text) {
        StringBuilder s = new StringBuilder(text);
        int at = upTo(s.length());
        switch (upTo(8)) {
            case 0: return s.substring(0, at);
            case 1: return s.insert(at, " " + ODD[upTo(ODD.length - 1)] + " ").toString();
            case 2: return s.insert(at, ODD[upTo(ODD.length - 1)]).toString();
            case 3: return at < s.length() ? s.deleteCharAt(at).toString() : text;
            case 4: return text + " house a 5 5; likes a zz 3; likes q q 4;";
            case 5: return text + " grows = " + "(".repeat(6 + upTo(1)) + "1" + ")".repeat(6 + upTo(1)) + ";";
            case 6: return text + "grows=" + "1+".repeat(upTo(200)) + "1;" + "well 5;".repeat(upTo(40));
            case 7: return text + " likes a b 10; likes a a 3; well 0;";
            default: return text + " ".repeat(upTo(30)) + (chance(50) ? "costs = (hair" : "water 5");
        }
    }

    // ---- calls

    private int h() {
        return chance(96) ? upTo(5) : upTo(8) - 2;
    }

    private int w() {
        return chance(60) ? upTo(30) : chance(70) ? upTo(99) : chance(80) ? upTo(999) : upTo(2000) - 500;
    }

    private int what(int most) {
        return chance(97) ? upTo(most) : chance(50) ? most + 1 : -1;
    }

    private int n() {
        return chance(60) ? upTo(6) : chance(80) ? upTo(60) : upTo(66) - 3;
    }

    private void ask() {
        int pick = upTo(99);
        if (pick < 35) {
            change(pick);
        } else if (pick < 60) {
            lookAround(pick);
        } else {
            plan(pick);
        }
    }

    private void change(int pick) {
        int h = h();
        int n = n();
        int w = w();
        int slot = chance(95) ? upTo(2) : upTo(6) - 2;
        if (pick < 14) {
            due("splice " + h, rope.splice(h), model.splice(h));
        } else if (pick < 16) {
            due("unsplice", rope.unsplice(), model.unsplice());
        } else if (pick < 20) {
            due("haul " + w, rope.haul(w), model.haul(w));
        } else if (pick < 25) {
            due("years " + n, rope.years(n), model.years(n));
        } else if (pick < 29) {
            due("undo", rope.undo(), model.undo());
        } else if (pick < 31) {
            due("hold " + slot, rope.hold(slot), model.hold(slot));
        } else if (pick < 32) {
            due("restore " + slot, rope.restore(slot), model.restore(slot));
        } else if (pick < 34 || chance(80)) {
            int p = chance(95) ? upTo(3) : upTo(8) - 2;
            int v = chance(95) ? 20 + upTo(79) : upTo(103) - 2;
            boolean so = chance(50);
            due("tell " + p + " " + v + " " + so, rope.tell(p, v, so), model.tell(p, v, so));
        } else {
            due("forget", rope.forget(), model.forget());
        }
    }

    private void lookAround(int pick) {
        int h = h();
        int o = h();
        int c = what(16);
        switch (pick % 10) {
            case 0: case 1: c = what(8); due("house " + h + " " + c, rope.house(h, c), model.house(h, c)); break;
            case 2: due("likes " + h + " " + o, rope.likes(h, o), model.likes(h, o)); break;
            case 3: due("joins " + h + " " + o, rope.joins(h, o), model.joins(h, o)); break;
            case 4: due("at " + h, rope.at(h), model.at(h)); break;
            case 5: due("below " + h, rope.below(h), model.below(h)); break;
            case 6: due("share " + h, rope.share(h), model.share(h)); break;
            default: due("count " + c, rope.count(c), model.count(c)); break;
        }
    }

    private void plan(int pick) {
        int h = h();
        int n = n();
        int w = w();
        int c = what(1);
        int k = chance(95) ? upTo(3) : upTo(22) - 1;
        int l = chance(95) ? 1 + upTo(3) : upTo(8);
        int v = chance(95) ? upTo(99) : upTo(110) - 5;
        switch (pick % 20) {
            case 0: due("most", rope.most(), model.most()); break;
            case 1: due("weakest " + c, rope.weakest(c), model.weakest(c)); break;
            case 2: due("orders " + w, rope.orders(w), model.orders(w)); break;
            case 3: due("peak", rope.peak(), model.peak()); break;
            case 4: case 5: n = upTo(7) - 1; due("fewest " + w + " " + n, rope.fewest(w, n), model.fewest(w, n)); break;
            case 6: due("needed " + w, rope.needed(w), model.needed(w)); break;
            case 7: soonOrPeace(w); break;
            case 8: due("rests " + c, rope.rests(c), model.rests(c)); break;
            case 9: due("pivots", rope.pivots(), model.pivots()); break;
            case 10: due("lasts " + w, rope.lasts(w), model.lasts(w)); break;
            case 11: due("harvest " + h + " " + n + " " + c, rope.harvest(h, n, c), model.harvest(h, n, c)); break;
            case 12: due("swap", rope.swap(), model.swap()); break;
            case 13: due("quarrel " + c, rope.quarrel(c), model.quarrel(c)); break;
            case 14: due("greyest " + c, rope.greyest(c), model.greyest(c)); break;
            case 15: due("then " + h + " " + n + " " + c, rope.then(h, n, c), model.then(h, n, c)); break;
            case 16:
                int s = chance(95) ? 1 + upTo(5) : upTo(22);
                due("year " + h + " " + v + " " + n + " " + s, rope.year(h, v, n, s), model.year(h, v, n, s));
                break;
            case 17: due("rows " + k + " " + l + " " + c, rope.rows(k, l, c), model.rows(k, l, c)); break;
            case 18: due("feel " + k + " " + l + " " + v, rope.feel(k, l, v), model.feel(k, l, v)); break;
            default: soonOrPeace(w); break;
        }
    }

    /** The Model takes long for these, so they are asked less often. */
    private void soonOrPeace(int w) {
        int c = what(2);
        if (model.count(0) > 4 && !chance(6)) {
            return;
        }
        if (chance(40)) {
            due("soon " + w, rope.soon(w), model.soon(w));
        } else {
            due("peace " + w + " " + c, rope.peace(w, c), model.peace(w, c));
        }
    }
}
