import java.math.BigInteger;
import java.util.ArrayDeque;
import java.util.ArrayList;
import java.util.Arrays;
import java.util.Deque;
import java.util.HashMap;
import java.util.List;
import java.util.Map;
import java.util.TreeSet;
import java.util.function.ToIntFunction;
import java.util.regex.Matcher;
import java.util.regex.Pattern;

/**
 * The document once more, as literally and as slowly as may be: every rope is laid out, every haul is tried.
 * It shares nothing with HairRope, so that where the two differ one of them is wrong.
 */
final class Model {
    static final int NONE = -1;
    static final int NOT = -2;
    private static final List<String> VARS =
        List.of("hair", "strong", "like", "year", "place", "which", "spliced", "given", "other");
    private static final List<String> WORDS = new ArrayList<>(List.of("house", "likes", "well", "water", "grows",
        "weakens", "joins", "costs", "blight", "seed", "if", "then", "else"));
    private static final Map<String, List<List<String>>> GRAMMAR = new HashMap<>();

    static {
        WORDS.addAll(VARS);
        rule("TEXT", "TELLS END");
        rule("TELLS", "", "TELL TELLS");
        rule("TELL", "house NAME INT INT ;", "likes NAME NAME INT ;", "well INT ;", "water INT ;", "grows LAW ;",
            "weakens LAW ;", "joins LAW ;", "costs LAW ;", "blight INT ;", "seed INT ;");
        rule("LAW", "= IFS E");
        rule("IFS", "", "if E < E then E else IFS");
        rule("E", "PART ETAIL");
        rule("ETAIL", "", "+ PART ETAIL", "- PART ETAIL");
        rule("PART", "UNIT PTAIL");
        rule("PTAIL", "", "* UNIT PTAIL", "/ UNIT PTAIL");
        rule("UNIT", "INT", "hair", "strong", "like", "year", "place", "which", "spliced", "given", "other", "( E )");
    }

    private static void rule(String symbol, String... ways) {
        List<List<String>> list = new ArrayList<>();
        for (String way : ways) {
            list.add(way.isEmpty() ? List.of() : List.of(way.split(" ")));
        }
        GRAMMAR.put(symbol, list);
    }

    record Token(String kind, String text, int at) { }

    record Plait(int house, int length, int strong) { }

    static final class DividedByNought extends RuntimeException {
        private static final long serialVersionUID = 1L;
    }

    /** A text that was read. */
    static final class Told {
        final List<String> names = new ArrayList<>();
        final List<Integer> hair = new ArrayList<>();
        final List<Integer> strong = new ArrayList<>();
        final Map<String, Integer> likes = new HashMap<>();
        final Map<String, List<Token>> laws = new HashMap<>();
        int well = 20;
        int water = 10;
        int blight = 0;
        int seed = 0;

        int like(int a, int b) {
            return likes.getOrDefault(Math.min(a, b) + " " + Math.max(a, b), 5);
        }
    }

    /** How it goes. */
    static final class Now {
        List<Integer> hair = new ArrayList<>();
        List<Integer> given = new ArrayList<>();
        List<Plait> rope = new ArrayList<>();
        int year;
        int drawn;

        Now copy() {
            Now c = new Now();
            c.hair = new ArrayList<>(hair);
            c.given = new ArrayList<>(given);
            c.rope = new ArrayList<>(rope);
            c.year = year;
            c.drawn = drawn;
            return c;
        }

        int place(int house) {
            for (int p = 0; p < rope.size(); p++) {
                if (rope.get(p).house == house) {
                    return p;
                }
            }
            return NONE;
        }

        int length() {
            return rope.stream().mapToInt(p -> p.length).sum();
        }
    }

    private StringBuilder tape = new StringBuilder();
    private int faultAt = NONE;
    private Told told = new Told();
    private Now now = new Now();
    private final Deque<Now> done = new ArrayDeque<>();
    private final Now[] slots = new Now[3];
    private final List<int[]> known = new ArrayList<>();

    // ---- the text

    int feed(int a, int b, int c, int d, int e) {
        if (tape.length() + 20 > 2000) {
            return NONE;
        }
        for (int four : new int[] {a, b, c, d, e}) {
            for (int shift : new int[] {24, 16, 8, 0}) {
                tape.append((char) (four >> shift & 0xff));
            }
        }
        return tape.length();
    }

    int back(int n) {
        if (n < 0 || n > tape.length()) {
            return NONE;
        }
        tape.setLength(tape.length() - n);
        return tape.length();
    }

    int read() {
        String text = tape.toString();
        tape = new StringBuilder();
        Told next = new Told();
        int[] fault = fault(text, next);
        faultAt = fault[0] == 0 ? NONE : fault[1];
        if (fault[0] == 0) {
            told = next;
            now = new Now();
            now.hair.addAll(told.hair);
            for (int i = 0; i < told.names.size(); i++) {
                now.given.add(0);
            }
            done.clear();
            Arrays.fill(slots, null);
            known.clear();
        }
        return fault[0];
    }

    int place() {
        return faultAt;
    }

    private static List<Token> tokens(String text) {
        List<Token> all = new ArrayList<>();
        Matcher m = Pattern.compile("[a-z]+|[0-9]+|[^\\t\\n\\r ]", Pattern.DOTALL).matcher(text);
        while (m.find()) {
            String t = m.group();
            String kind = "BAD";
            if (t.matches("[a-z]{1,8}")) {
                kind = WORDS.contains(t) ? t : "NAME";
            } else if (t.matches("[0-9]{1,4}")) {
                kind = "INT";
            } else if (t.matches("[;=+\\-*/<()]")) {
                kind = t;
            }
            all.add(new Token(kind, t, m.start()));
        }
        all.add(new Token("END", "", text.length()));
        return all;
    }

    /** All the ways a symbol can go from a token on: the tokens behind it. The furthest token tried is kept. */
    private static final class Recogniser {
        private final List<Token> all;
        private final Map<String, TreeSet<Integer>> ends = new HashMap<>();
        private int furthest;

        Recogniser(List<Token> all) {
            this.all = all;
        }

        /** The first token with which no text goes on; NONE if it is a text. */
        int bad() {
            return from("TEXT", 0).contains(all.size()) ? NONE : furthest;
        }

        private TreeSet<Integer> from(String symbol, int at) {
            TreeSet<Integer> result = new TreeSet<>();
            if (!GRAMMAR.containsKey(symbol)) {
                if (at < all.size()) {
                    furthest = Math.max(furthest, at);
                    if (all.get(at).kind.equals(symbol)) {
                        result.add(at + 1);
                    }
                }
                return result;
            }
            String key = symbol + " " + at;
            if (ends.containsKey(key)) {
                return ends.get(key);
            }
            for (List<String> way : GRAMMAR.get(symbol)) {
                TreeSet<Integer> here = new TreeSet<>(List.of(at));
                for (String part : way) {
                    TreeSet<Integer> behind = new TreeSet<>();
                    for (int h : here) {
                        behind.addAll(from(part, h));
                    }
                    here = behind;
                }
                result.addAll(here);
            }
            ends.put(key, result);
            return result;
        }
    }

    private static int[] fault(String text, Told into) {
        List<Token> all = tokens(text);
        int bad = new Recogniser(all).bad();
        int room = tooMany(all.subList(0, bad == NONE ? all.size() - 1 : bad));
        if (room != NONE) {
            return new int[] {2, all.get(room).at};
        }
        if (bad != NONE) {
            return new int[] {1, all.get(bad).at};
        }
        return sense(all, into);
    }

    /** The first of the tokens for which there is no ROOM. */
    private static int tooMany(List<Token> all) {
        Map<String, Integer> sorts = new HashMap<>();
        int ifs = 0;
        int open = 0;
        for (int i = 0; i < all.size(); i++) {
            String kind = all.get(i).kind;
            int sort = sorts.merge(kind, 1, Integer::sum);
            ifs = kind.equals(";") ? 0 : kind.equals("if") ? ifs + 1 : ifs;
            open += kind.equals("(") ? 1 : kind.equals(")") ? -1 : 0;
            if (i == 400 || kind.equals("house") && sort > 6 || kind.equals("likes") && sort > 20 || ifs > 4 || open > 6) {
                return i;
            }
        }
        return NONE;
    }

    private static int[] sense(List<Token> all, Told into) {
        List<int[]> faults = new ArrayList<>();
        List<Token> tell = new ArrayList<>();
        for (Token t : all) {
            if (!t.kind.equals(";") && !t.kind.equals("END")) {
                tell.add(t);
                continue;
            }
            if (!tell.isEmpty()) {
                take(tell, into, faults);
            }
            tell = new ArrayList<>();
        }
        faults.sort((a, b) -> a[1] != b[1] ? Integer.compare(a[1], b[1]) : Integer.compare(a[0], b[0]));
        return faults.isEmpty() ? new int[] {0, NONE} : faults.get(0);
    }

    private static void take(List<Token> tell, Told into, List<int[]> faults) {
        switch (tell.get(0).kind) {
            case "house":
                if (into.names.contains(tell.get(1).text)) {
                    faults.add(new int[] {3, tell.get(1).at});
                }
                into.names.add(tell.get(1).text);
                into.hair.add(number(tell.get(2), 0, 20, faults));
                into.strong.add(number(tell.get(3), 1, 99, faults));
                break;
            case "likes":
                int a = into.names.indexOf(tell.get(1).text);
                int b = into.names.indexOf(tell.get(2).text);
                if (a < 0) {
                    faults.add(new int[] {4, tell.get(1).at});
                }
                if (b < 0) {
                    faults.add(new int[] {4, tell.get(2).at});
                }
                if (a >= 0 && a == b) {
                    faults.add(new int[] {3, tell.get(2).at});
                }
                into.likes.put(Math.min(a, b) + " " + Math.max(a, b), number(tell.get(3), 0, 9, faults));
                break;
            case "well": into.well = number(tell.get(1), 1, 99, faults); break;
            case "water": into.water = number(tell.get(1), 0, 99, faults); break;
            case "blight": into.blight = number(tell.get(1), 0, 100, faults); break;
            case "seed": into.seed = number(tell.get(1), 0, 9999, faults); break;
            default: into.laws.put(tell.get(0).kind, new ArrayList<>(tell.subList(2, tell.size()))); break;
        }
    }

    private static int number(Token t, int least, int greatest, List<int[]> faults) {
        int n = Integer.parseInt(t.text);
        if (n < least || n > greatest) {
            faults.add(new int[] {5, t.at});
        }
        return n;
    }

    // ---- laws

    /** Reckons a law straight from its tokens. */
    private static final class Reckoner {
        private final List<Token> law;
        private final Map<String, Integer> seen;
        private int at;

        Reckoner(List<Token> law, Map<String, Integer> seen) {
            this.law = law;
            this.seen = seen;
        }

        private String next() {
            return at < law.size() ? law.get(at).kind : "";
        }

        int law() {
            while (next().equals("if")) {
                at++;
                int left = sum();
                at++;
                int right = sum();
                at++;
                if (left < right) {
                    return sum();
                }
                while (!next().equals("else")) {
                    at++;
                }
                at++;
            }
            return sum();
        }

        private int sum() {
            BigInteger value = BigInteger.valueOf(product());
            while (next().equals("+") || next().equals("-")) {
                boolean plus = next().equals("+");
                at++;
                BigInteger more = BigInteger.valueOf(product());
                value = BigInteger.valueOf((plus ? value.add(more) : value.subtract(more)).intValue());
            }
            return value.intValue();
        }

        private int product() {
            BigInteger value = BigInteger.valueOf(unit());
            while (next().equals("*") || next().equals("/")) {
                boolean times = next().equals("*");
                at++;
                BigInteger more = BigInteger.valueOf(unit());
                if (!times && more.signum() == 0) {
                    throw new DividedByNought();
                }
                value = BigInteger.valueOf((times ? value.multiply(more) : value.divide(more)).intValue());
            }
            return value.intValue();
        }

        private int unit() {
            Token t = law.get(at);
            at++;
            if (t.kind.equals("INT")) {
                return Integer.parseInt(t.text);
            }
            if (t.kind.equals("(")) {
                int inner = sum();
                at++;
                return inner;
            }
            return seen.get(t.kind);
        }
    }

    private Map<String, Integer> seen(Now n, int house) {
        int p = n.place(house);
        Map<String, Integer> seen = new HashMap<>();
        seen.put("hair", n.hair.get(house));
        seen.put("strong", strong(n, house));
        seen.put("like", 0);
        seen.put("year", n.year);
        seen.put("place", p < 0 ? 0 : p);
        seen.put("which", house);
        seen.put("spliced", n.rope.size());
        seen.put("given", n.given.get(house));
        seen.put("other", 0);
        return seen;
    }

    private int law(String name, Map<String, Integer> seen, int greatest) {
        int value;
        if (!told.laws.containsKey(name)) {
            value = name.equals("joins") ? seen.get("like") * 10 : name.equals("costs") ? seen.get("hair") : 1;
        } else {
            try {
                value = new Reckoner(told.laws.get(name), seen).law();
            } catch (DividedByNought e) {
                value = 0;
            }
        }
        return value < 0 ? 0 : value > greatest ? greatest : value;
    }

    private int law(String name, Now n, int house) {
        return law(name, seen(n, house), 99);
    }

    private int strong(Now n, int house) {
        int p = n.place(house);
        return p < 0 ? told.strong.get(house) : n.rope.get(p).strong;
    }

    private int joins(Now n, int above, int below, int like) {
        Map<String, Integer> seen = seen(n, above);
        seen.put("like", like);
        seen.put("other", strong(n, below));
        return law("joins", seen, 999);
    }

    // ---- years and hauls

    static int lot(int n, int seed, int which) {
        long h = seed;
        for (long it : new long[] {219, which}) {
            h = ((h ^ it) * 1103515245L + 12345L) & 0xffffffffL;
            h = h ^ (h >> 15);
        }
        return (int) ((h >> 1) % n);
    }

    private void year(Now n, int blight, int seed) {
        Now began = n.copy();
        for (int h = 0; h < told.names.size(); h++) {
            int hair = began.hair.get(h);
            boolean ill = lot(100, seed, 8 * began.year + h) < blight;
            n.hair.set(h, ill ? hair / 2 : Math.min(99, hair + law("grows", began, h)));
        }
        for (int p = 0; p < n.rope.size(); p++) {
            Plait was = began.rope.get(p);
            int strong = Math.max(0, was.strong - law("weakens", began, was.house));
            n.rope.set(p, new Plait(was.house, was.length, strong));
        }
        n.year++;
    }

    private Now later(int years, boolean blight, int seed) {
        Now n = now.copy();
        for (int i = 0; i < years; i++) {
            year(n, blight ? told.blight : 0, seed);
        }
        return n;
    }

    /** LIKES of two that are asked of (a text's, or others in their place). */
    interface Likes {
        int of(int a, int b);
    }

    /** Where a rope breaks, the highest first: {lower place, 1 for a join}. */
    private List<int[]> breaks(Now n, List<Plait> rope, Likes likes, int w) {
        List<int[]> all = new ArrayList<>();
        for (int p = 0; p < rope.size(); p++) {
            Plait here = rope.get(p);
            int bears = w;
            for (int q = p + 1; q < rope.size(); q++) {
                bears += rope.get(q).length;
            }
            if (p > 0) {
                int above = rope.get(p - 1).house;
                if (bears + here.length > joins(n, above, here.house, likes.of(above, here.house))) {
                    all.add(new int[] {p, 1});
                }
            }
            if (bears > here.strong) {
                all.add(new int[] {p, 0});
            }
        }
        return all;
    }

    private int most(Now n) {
        for (int w = 999; w >= 0; w--) {
            if (n.rope.isEmpty() || w <= 99 && breaks(n, n.rope, told::like, w).isEmpty()) {
                return w;
            }
        }
        return NOT;
    }

    private void does(Now next) {
        done.push(now);
        if (done.size() > 40) {
            done.removeLast();
        }
        now = next;
    }

    // ---- planned ropes

    private List<List<Plait>> planned(Now n) {
        List<List<Plait>> all = new ArrayList<>();
        List<Plait> have = new ArrayList<>();
        for (int h = 0; h < told.names.size(); h++) {
            Plait p = has(n, h);
            if (p != null) {
                have.add(p);
            }
        }
        plan(have, new ArrayList<>(), all);
        return all;
    }

    private Plait has(Now n, int h) {
        int p = n.place(h);
        if (p >= 0) {
            return n.rope.get(p);
        }
        return n.hair.get(h) > 0 ? new Plait(h, n.hair.get(h), told.strong.get(h)) : null;
    }

    private static void plan(List<Plait> have, List<Plait> rope, List<List<Plait>> all) {
        if (!rope.isEmpty()) {
            all.add(new ArrayList<>(rope));
        }
        for (Plait p : have) {
            if (!rope.contains(p)) {
                rope.add(p);
                plan(have, rope, all);
                rope.remove(rope.size() - 1);
            }
        }
    }

    private List<List<Plait>> holding(Now n, Likes likes, int w) {
        List<List<Plait>> all = new ArrayList<>();
        for (List<Plait> rope : planned(n)) {
            boolean reaches = rope.stream().mapToInt(p -> p.length).sum() >= told.well;
            if (reaches && breaks(n, rope, likes, w).isEmpty()) {
                all.add(rope);
            }
        }
        return all;
    }

    private static boolean isW(int w) {
        return w >= 0 && w <= 999;
    }

    private boolean isHouse(int h) {
        return h >= 0 && h < told.names.size();
    }

    // ---- the calls

    int house(int h, int what) {
        if (!isHouse(h) || what < 0 || what > 8) {
            return NONE;
        }
        int p = now.place(h);
        Plait plait = p < 0 ? new Plait(h, 0, 0) : now.rope.get(p);
        return new int[] {now.hair.get(h), told.strong.get(h), p < 0 ? NOT : p, plait.length, plait.strong,
            law("grows", now, h), law("weakens", now, h), law("costs", now, h), now.given.get(h)}[what];
    }

    int likes(int a, int b) {
        return !isHouse(a) || !isHouse(b) || a == b ? NONE : told.like(a, b);
    }

    int joins(int a, int b) {
        return !isHouse(a) || !isHouse(b) || a == b ? NONE : joins(now, a, b, told.like(a, b));
    }

    int at(int p) {
        return p < 0 || p >= now.rope.size() ? NONE : now.rope.get(p).house;
    }

    int splice(int h) {
        if (!isHouse(h) || now.place(h) >= 0 || now.hair.get(h) == 0) {
            return NONE;
        }
        Now next = now.copy();
        next.rope.add(new Plait(h, now.hair.get(h), told.strong.get(h)));
        next.hair.set(h, 0);
        next.given.set(h, now.given.get(h) + 1);
        does(next);
        return now.length();
    }

    int unsplice() {
        if (now.rope.isEmpty()) {
            return NONE;
        }
        Now next = now.copy();
        Plait gone = next.rope.remove(next.rope.size() - 1);
        does(next);
        return gone.house;
    }

    int haul(int w) {
        if (!isW(w) || now.length() < told.well) {
            return NONE;
        }
        Now next = now.copy();
        List<int[]> all = breaks(now, now.rope, told::like, w);
        if (all.isEmpty()) {
            next.drawn += w;
        } else {
            next.rope = new ArrayList<>(next.rope.subList(0, all.get(0)[0]));
        }
        does(next);
        return now.rope.size();
    }

    int years(int n) {
        if (n < 0 || n > 60) {
            return NONE;
        }
        if (n > 0) {
            does(later(n, true, told.seed));
        }
        return now.year;
    }

    boolean undo() {
        if (done.isEmpty()) {
            return false;
        }
        now = done.pop();
        return true;
    }

    int most() {
        return most(now);
    }

    int weakest(int what) {
        if (what != 0 && what != 1) {
            return NONE;
        }
        int w = most(now);
        List<int[]> all = breaks(now, now.rope, told::like, w < 0 ? 0 : w + 1);
        return all.isEmpty() ? NOT : all.get(0)[what];
    }

    int below(int p) {
        if (p < 0 || p >= now.rope.size()) {
            return NONE;
        }
        return now.rope.subList(p + 1, now.rope.size()).stream().mapToInt(q -> q.length).sum();
    }

    int orders(int w) {
        return isW(w) ? holding(now, told::like, w).size() : NONE;
    }

    int peak() {
        int peak = NOT;
        for (List<Plait> rope : holding(now, told::like, 0)) {
            for (int w = Math.max(peak, 0); w <= 999 && breaks(now, rope, told::like, w).isEmpty(); w++) {
                peak = w;
            }
        }
        return peak;
    }

    private static String names(List<Plait> rope) {
        StringBuilder s = new StringBuilder();
        s.append(rope.size());
        rope.forEach(p -> s.append(p.house));
        return s.toString();
    }

    int fewest(int w, int i) {
        if (!isW(w)) {
            return NONE;
        }
        List<List<Plait>> all = holding(now, told::like, w);
        if (all.isEmpty()) {
            return NOT;
        }
        String best = all.stream().map(Model::names).min(String::compareTo).get();
        return i == NONE ? best.length() - 1 : i < 0 || i >= best.length() - 1 ? NONE : best.charAt(i + 1) - '0';
    }

    int needed(int w) {
        if (!isW(w)) {
            return NONE;
        }
        List<List<Plait>> all = holding(now, told::like, w);
        int bits = all.isEmpty() ? NOT : 0;
        for (int h = 0; h < told.names.size() && !all.isEmpty(); h++) {
            int house = h;
            if (all.stream().allMatch(rope -> rope.stream().anyMatch(p -> p.house == house))) {
                bits |= 1 << h;
            }
        }
        return bits;
    }

    int soon(int w) {
        if (!isW(w)) {
            return NONE;
        }
        for (int y = 0; y <= 60; y++) {
            if (!holding(later(y, false, 0), told::like, w).isEmpty()) {
                return y;
            }
        }
        return NOT;
    }

    int peace(int w, int what) {
        if (!isW(w) || what < 0 || what > 2) {
            return NONE;
        }
        List<Integer> pairs = new ArrayList<>();
        for (int a = 0; a < told.names.size(); a++) {
            for (int b = a + 1; b < told.names.size(); b++) {
                pairs.add(10 * a + b);
            }
        }
        List<List<Integer>> sets = new ArrayList<>();
        sets.add(List.of());
        pairs.forEach(p -> sets.add(List.of(p)));
        pairs.forEach(p -> pairs.stream().filter(q -> q > p).forEach(q -> sets.add(List.of(p, q))));
        for (List<Integer> set : sets) {
            Likes likes = (a, b) -> set.contains(10 * Math.min(a, b) + Math.max(a, b)) ? 9 : told.like(a, b);
            if (!holding(now, likes, w).isEmpty()) {
                return what == 0 ? set.size() : what <= set.size() ? set.get(what - 1) : -1;
            }
        }
        return NOT;
    }

    private boolean enough(TreeSet<Integer> set) {
        return set.stream().mapToInt(h -> has(now, h).length).sum() >= told.well;
    }

    private TreeSet<Integer> givers() {
        TreeSet<Integer> all = new TreeSet<>();
        for (int h = 0; h < told.names.size(); h++) {
            if (has(now, h) != null) {
                all.add(h);
            }
        }
        return all;
    }

    private int gain(TreeSet<Integer> set, int h) {
        int cost = now.place(h) >= 0 ? 0 : law("costs", now, h);
        return (enough(set) ? told.water : 0) - (set.contains(h) ? cost : 0);
    }

    private boolean rest(TreeSet<Integer> set) {
        for (int h : givers()) {
            TreeSet<Integer> other = new TreeSet<>(set);
            if (!other.remove(h)) {
                other.add(h);
            }
            if (gain(other, h) > gain(set, h)) {
                return false;
            }
        }
        return true;
    }

    int rests(int what) {
        if (what != 0 && what != 1) {
            return NONE;
        }
        List<int[]> all = new ArrayList<>();
        for (int bits = 0; bits < 64; bits++) {
            TreeSet<Integer> set = new TreeSet<>();
            for (int h = 0; h < 6; h++) {
                if ((bits >> h & 1) == 1) {
                    set.add(h);
                }
            }
            if (givers().containsAll(set) && rest(set)) {
                all.add(new int[] {set.size(), bits});
            }
        }
        all.sort((a, b) -> a[0] != b[0] ? a[0] - b[0] : a[1] - b[1]);
        return what == 0 ? all.size() : all.isEmpty() ? NOT : all.get(0)[1];
    }

    int pivots() {
        int bits = 0;
        for (int h = 0; h < told.names.size(); h++) {
            TreeSet<Integer> others = givers();
            others.remove(h);
            bits |= enough(others) ? 0 : 1 << h;
        }
        return bits;
    }

    int share(int h) {
        if (!isHouse(h)) {
            return NONE;
        }
        int p = now.place(h);
        return p < 0 ? 0 : (int) Math.floor(1000.0 * now.rope.get(p).length / now.length());
    }

    int lasts(int w) {
        if (!isW(w)) {
            return NONE;
        }
        for (int y = 0; y <= 60; y++) {
            Now n = later(y, false, 0);
            if (!breaks(n, n.rope, told::like, w).isEmpty()) {
                return y;
            }
        }
        return NOT;
    }

    int harvest(int h, int n, int what) {
        if (!isHouse(h) || n < 1 || n > 60 || what < 0 || what > 1) {
            return NONE;
        }
        int[] best = {0, -1};
        for (int g = 1; g <= n; g++) {
            Now later = now.copy();
            int sum = 0;
            for (int y = 1; y <= n; y++) {
                year(later, 0, 0);
                if (y % g == 0) {
                    sum += later.hair.get(h);
                    later.hair.set(h, 0);
                }
            }
            sum += later.hair.get(h);
            if (sum > best[1]) {
                best = new int[] {g, sum};
            }
        }
        return best[what];
    }

    int swap() {
        int best = most(now);
        int answer = NOT;
        for (int a = 0; a < now.rope.size(); a++) {
            for (int b = a + 1; b < now.rope.size(); b++) {
                Now n = now.copy();
                n.rope.set(a, now.rope.get(b));
                n.rope.set(b, now.rope.get(a));
                if (most(n) > best) {
                    best = most(n);
                    answer = 10 * a + b;
                }
            }
        }
        return answer;
    }

    private static int least(List<Integer> of, int from, int what) {
        if (of.isEmpty()) {
            return NOT;
        }
        int least = of.stream().mapToInt(x -> x).min().getAsInt();
        return what == 0 ? from + of.indexOf(least) : least;
    }

    int quarrel(int what) {
        if (what != 0 && what != 1) {
            return NONE;
        }
        List<Integer> all = new ArrayList<>();
        for (int p = 1; p < now.rope.size(); p++) {
            all.add(joins(at(p - 1), at(p)));
        }
        return least(all, 1, what);
    }

    int greyest(int what) {
        if (what != 0 && what != 1) {
            return NONE;
        }
        return least(now.rope.stream().map(p -> p.strong).toList(), 0, what);
    }

    int then(int h, int n, int what) {
        if (!isHouse(h) || n < 0 || n > 60 || what < 0 || what > 1) {
            return NONE;
        }
        Now later = later(n, true, told.seed);
        int p = later.place(h);
        return what == 0 ? later.hair.get(h) : p < 0 ? 0 : later.rope.get(p).strong;
    }

    int year(int h, int v, int n, int s) {
        if (!isHouse(h) || v < 0 || v > 99 || n < 0 || n > 60 || s < 1 || s > 20) {
            return NONE;
        }
        int good = 0;
        for (int i = 0; i < s; i++) {
            good += later(n, true, told.seed + i).hair.get(h) >= v ? 1 : 0;
        }
        return good;
    }

    int tell(int p, int v, boolean so) {
        if (p < 0 || p > 5 || v < 0 || v > 99 || known.size() == 20) {
            return NONE;
        }
        known.add(new int[] {p, v, so ? 1 : 0});
        return known.size() - 1;
    }

    int forget() {
        int n = known.size();
        known.clear();
        return n;
    }

    private void fitting(List<Integer> row, int l, List<int[]> of, List<List<Integer>> all) {
        if (row.size() == l) {
            for (int[] k : of) {
                if (k[0] >= l || strong(now, row.get(k[0])) >= k[1] != (k[2] == 1)) {
                    return;
                }
            }
            all.add(new ArrayList<>(row));
            return;
        }
        for (int h = 0; h < told.names.size(); h++) {
            if (!row.contains(h)) {
                row.add(h);
                fitting(row, l, of, all);
                row.remove(row.size() - 1);
            }
        }
    }

    private List<List<Integer>> fitting(int l, List<int[]> of) {
        List<List<Integer>> all = new ArrayList<>();
        fitting(new ArrayList<>(), l, of, all);
        return all;
    }

    int rows(int k, int l, int what) {
        if (k < 0 || k > known.size() || l < 1 || l > 6 || what < 0 || what > 1) {
            return NONE;
        }
        List<List<Integer>> all = fitting(l, known.subList(0, k));
        ToIntFunction<List<Integer>> code = row -> row.stream().reduce(0, (c, h) -> 6 * c + h);
        return what == 0 ? all.size() : all.stream().mapToInt(code).min().orElse(NOT);
    }

    int feel(int k, int l, int v) {
        if (k < 0 || k > known.size() || l < 1 || l > 6 || v < 0 || v > 99) {
            return NONE;
        }
        if (fitting(l, known.subList(0, k)).isEmpty()) {
            return NOT;
        }
        int best = NOT;
        int fewest = Integer.MAX_VALUE;
        for (int p = 0; p < l; p++) {
            int worst = 0;
            for (int so = 0; so <= 1; so++) {
                List<int[]> more = new ArrayList<>(known.subList(0, k));
                more.add(new int[] {p, v, so});
                worst = Math.max(worst, fitting(l, more).size());
            }
            if (worst < fewest) {
                fewest = worst;
                best = p;
            }
        }
        return best;
    }

    boolean hold(int slot) {
        if (slot < 0 || slot > 2) {
            return false;
        }
        slots[slot] = now.copy();
        return true;
    }

    boolean restore(int slot) {
        if (slot < 0 || slot > 2 || slots[slot] == null) {
            return false;
        }
        now = slots[slot].copy();
        done.clear();
        return true;
    }

    int count(int what) {
        int bald = 0;
        int roped = 0;
        for (int h = 0; h < told.names.size(); h++) {
            bald |= now.hair.get(h) == 0 ? 1 << h : 0;
            roped |= now.place(h) >= 0 ? 1 << h : 0;
        }
        int held = (int) Arrays.stream(slots).filter(s -> s != null).count();
        int[] all = {told.names.size(), told.well, now.year, now.rope.size(), now.length(), now.drawn,
            now.hair.stream().mapToInt(x -> x).sum(), roped, tape.length(), done.size(), known.size(), held,
            now.length() >= told.well ? 1 : 0, told.water, now.given.stream().mapToInt(x -> x).sum(), bald,
            now.rope.stream().mapToInt(p -> p.strong).sum()};
        return what < 0 || what >= all.length ? NONE : all[what];
    }
}
