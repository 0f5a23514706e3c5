import java.util.Arrays;

/** A well rope made of hair. DOC.md tells what each call answers; its words in capitals are meant as there. */
public final class HairRope {
    public static final int NONE = -1;

    private static final int NEVER = -2;
    private static final int MAX_HOUSES = 6;
    private static final int MAX_LIKES = 20;
    private static final int MAX_HAUL = 999;
    private static final int MAX_YEARS = 60;
    private static final int MAX_SEEDS = 20;
    private static final int MAX_VALUE = 99;
    private static final int MAX_UNDO = 40;
    private static final int MAX_SLOTS = 3;
    private static final int MAX_TOLD = 20;
    private static final int MAX_TAPE = 2000;
    private static final int MAX_TOKENS = 400;
    private static final int MAX_IFS = 4;
    private static final int MAX_NESTING = 6;
    private static final int FEED_BYTES = 20;
    private static final int BEST_LIKE = 9;

    // The LAWS, numbered as their words stand in WORDS.
    private static final int LAWS = 4;
    private static final int GROWS = 0;
    private static final int WEAKENS = 1;
    private static final int JOINS = 2;
    private static final int COSTS = 3;

    // What a LAW looks at, numbered as the words stand in WORDS.
    private static final int VARS = 9;
    private static final int HAIR = 0;
    private static final int STRONG = 1;
    private static final int LIKE = 2;
    private static final int YEAR = 3;
    private static final int PLACE = 4;
    private static final int WHICH = 5;
    private static final int SPLICED = 6;
    private static final int GIVEN = 7;
    private static final int OTHER = 8;

    private final Tape tape;
    private final Parser parser;
    private final Rules rules;
    private final State state;
    private final History history;
    private final Forecast forecast;
    private final Planner planner;
    private final Giving giving;
    private final Feeler feeler;
    private Text spareText;
    private int faultPlace;

    public HairRope() {
        tape = new Tape();
        spareText = new Text();
        parser = new Parser(tape, spareText);
        rules = new Rules(new Text());
        state = new State();
        history = new History();
        forecast = new Forecast(rules);
        planner = new Planner(rules);
        giving = new Giving(rules, planner);
        feeler = new Feeler(rules);
        faultPlace = NONE;
    }

    public int feed(int a, int b, int c, int d, int e) {
        if (tape.length > MAX_TAPE - FEED_BYTES) {
            return NONE;
        }
        tape.put(a);
        tape.put(b);
        tape.put(c);
        tape.put(d);
        tape.put(e);
        return tape.length;
    }

    public int back(int n) {
        if (n < 0 || n > tape.length) {
            return NONE;
        }
        tape.length -= n;
        return tape.length;
    }

    public int read() {
        int fault = parser.parse(spareText);
        faultPlace = fault == 0 ? NONE : parser.faultPlace;
        tape.length = 0;
        if (fault == 0) {
            beginSpareText();
        }
        return fault;
    }

    public int place() {
        return faultPlace;
    }

    public int house(int house, int what) {
        if (!isHouse(house)) {
            return NONE;
        }
        int place = state.placeOf(house);
        switch (what) {
            case 0: return state.hair[house];
            case 1: return rules.text.strong[house];
            case 2: return place < 0 ? NEVER : place;
            case 3: return place < 0 ? 0 : state.length[place];
            case 4: return place < 0 ? 0 : state.strength[place];
            case 5: return rules.lawOf(GROWS, state, house);
            case 6: return rules.lawOf(WEAKENS, state, house);
            case 7: return rules.lawOf(COSTS, state, house);
            case 8: return state.given[house];
            default: return NONE;
        }
    }

    public int likes(int house, int other) {
        return areTwo(house, other) ? rules.text.likeOf(house, other) : NONE;
    }

    public int joins(int house, int other) {
        return areTwo(house, other) ? rules.joinOf(state, house, other, rules.text.likeOf(house, other)) : NONE;
    }

    public int at(int place) {
        return isPlace(place) ? state.whose[place] : NONE;
    }

    public int splice(int house) {
        if (!isHouse(house) || state.placeOf(house) >= 0 || state.hair[house] < 1) {
            return NONE;
        }
        history.keep(state);
        state.addPlait(house, rules.text.strong[house]);
        return state.ropeLength();
    }

    public int unsplice() {
        int lowest = state.plaits - 1;
        if (!isPlace(lowest)) {
            return NONE;
        }
        history.keep(state);
        state.plaits = lowest;
        return state.whose[lowest];
    }

    public int haul(int w) {
        if (!isHaul(w) || state.ropeLength() < rules.text.well) {
            return NONE;
        }
        history.keep(state);
        rules.weigh(state);
        int spot = rules.highestBreak(w);
        if (spot < 0) {
            state.drawn += w;
        } else {
            state.plaits = lowerPlaceOf(spot);
        }
        return state.plaits;
    }

    public int years(int n) {
        if (n < 0 || n > MAX_YEARS) {
            return NONE;
        }
        if (n > 0) {
            history.keep(state);
        }
        for (int i = 0; i < n; i++) {
            rules.ageAll(state, rules.text.blight, rules.text.seed);
        }
        return state.year;
    }

    public boolean undo() {
        return history.takeBack(state);
    }

    public int most() {
        rules.weigh(state);
        return rules.greatestHaul();
    }

    public int weakest(int what) {
        if (what < 0 || what > 1) {
            return NONE;
        }
        rules.weigh(state);
        int most = rules.greatestHaul();
        int spot = rules.highestBreak(most < 0 ? 0 : most + 1);
        if (spot < 0) {
            return NEVER;
        }
        return what == 0 ? lowerPlaceOf(spot) : spot % 2;
    }

    public int below(int place) {
        return isPlace(place) ? state.lengthBelow(place) : NONE;
    }

    public int orders(int w) {
        if (!isHaul(w)) {
            return NONE;
        }
        planner.lookAt(state);
        planner.survey(w);
        return planner.ropes;
    }

    public int peak() {
        planner.lookAt(state);
        planner.survey(0);
        return planner.ropes > 0 ? planner.peakHaul : NEVER;
    }

    public int fewest(int w, int i) {
        if (!isHaul(w)) {
            return NONE;
        }
        planner.lookAt(state);
        planner.survey(w);
        if (planner.ropes == 0) {
            return NEVER;
        }
        return i == NONE ? planner.fewestPlaits : planner.fewestHouseAt(i);
    }

    public int needed(int w) {
        if (!isHaul(w)) {
            return NONE;
        }
        planner.lookAt(state);
        planner.survey(w);
        return planner.ropes > 0 ? planner.inAll : NEVER;
    }

    public int soon(int w) {
        return isHaul(w) ? forecast.yearsUntilHeld(planner, state, w) : NONE;
    }

    public int peace(int w, int what) {
        if (!isHaul(w) || what < 0 || what > 2) {
            return NONE;
        }
        planner.lookAt(state);
        return planner.makePeace(state, w, what);
    }

    public int rests(int what) {
        if (what < 0 || what > 1) {
            return NONE;
        }
        giving.lookAt(state);
        giving.findRests();
        return what == 0 ? giving.restCount : giving.firstRest;
    }

    public int pivots() {
        giving.lookAt(state);
        return giving.pivotBits();
    }

    public int share(int house) {
        if (!isHouse(house)) {
            return NONE;
        }
        int place = state.placeOf(house);
        int all = state.ropeLength();
        return place < 0 || all < 1 ? 0 : state.length[place] * 1000 / all;
    }

    public int lasts(int w) {
        return isHaul(w) ? forecast.yearsUntilBroken(state, w) : NONE;
    }

    public int harvest(int house, int n, int what) {
        if (!isHouse(house) || n < 1 || n > MAX_YEARS || what < 0 || what > 1) {
            return NONE;
        }
        forecast.findHarvest(state, house, n);
        return what == 0 ? forecast.harvestStep : forecast.harvestSum;
    }

    public int swap() {
        return forecast.bestSwap(state);
    }

    public int quarrel(int what) {
        if (what < 0 || what > 1) {
            return NONE;
        }
        int best = NEVER;
        int least = NEVER;
        for (int place = 1; place < state.plaits; place++) {
            int join = rules.joinAbove(state, place);
            if (best < 0 || join < least) {
                best = place;
                least = join;
            }
        }
        return what == 0 ? best : least;
    }

    public int greyest(int what) {
        if (what < 0 || what > 1) {
            return NONE;
        }
        int best = NEVER;
        int least = NEVER;
        for (int place = 0; place < state.plaits && place < MAX_HOUSES; place++) {
            int strong = state.strength[place];
            if (best < 0 || strong < least) {
                best = place;
                least = strong;
            }
        }
        return what == 0 ? best : least;
    }

    public int then(int house, int n, int what) {
        if (!isHouse(house) || n < 0 || n > MAX_YEARS || what < 0 || what > 1) {
            return NONE;
        }
        forecast.passYears(state, house, n, rules.text.seed);
        return what == 0 ? forecast.hairThen(house) : forecast.strengthThen(house);
    }

    public int year(int house, int v, int n, int s) {
        if (!isHouse(house) || !isValue(v) || n < 0 || n > MAX_YEARS || s < 1 || s > MAX_SEEDS) {
            return NONE;
        }
        int good = 0;
        for (int i = 0; i < s; i++) {
            forecast.passYears(state, house, n, rules.text.seed + i);
            if (forecast.hairThen(house) >= v) {
                good++;
            }
        }
        return good;
    }

    public int tell(int place, int v, boolean so) {
        if (place < 0 || place >= MAX_HOUSES || !isValue(v) || feeler.told >= MAX_TOLD) {
            return NONE;
        }
        feeler.add(place, v, so);
        return feeler.told - 1;
    }

    public int forget() {
        int told = feeler.told;
        feeler.told = 0;
        return told;
    }

    public int rows(int k, int l, int what) {
        if (!isKnown(k) || !isRowLength(l) || what < 0 || what > 1) {
            return NONE;
        }
        feeler.findRows(state, k, l, 0);
        return what == 0 ? feeler.fits : feeler.firstRow;
    }

    public int feel(int k, int l, int v) {
        if (!isKnown(k) || !isRowLength(l) || !isValue(v)) {
            return NONE;
        }
        feeler.findRows(state, k, l, v);
        return feeler.bestPlace(l);
    }

    public boolean hold(int slot) {
        return isSlot(slot) && history.fillSlot(slot, state);
    }

    public boolean restore(int slot) {
        return isSlot(slot) && history.takeSlot(slot, state);
    }

    public int count(int what) {
        switch (what) {
            case 0: return rules.text.houses;
            case 1: return rules.text.well;
            case 2: return state.year;
            case 3: return state.plaits;
            case 4: return state.ropeLength();
            case 5: return state.drawn;
            case 6: return state.sumOfHair();
            case 7: return state.housesInRope();
            case 8: return tape.length;
            case 9: return history.size;
            case 10: return feeler.told;
            case 11: return Integer.bitCount(history.heldSlots);
            case 12: return state.ropeLength() >= rules.text.well ? 1 : 0;
            case 13: return rules.text.water;
            case 14: return state.sumOfGiven();
            case 15: return state.housesWithoutHair();
            case 16: return state.sumOfStrength();
            default: return NONE;
        }
    }

    private void beginSpareText() {
        Text old = rules.text;
        rules.text = spareText;
        spareText = old;
        state.begin(rules.text);
        history.clear();
        feeler.told = 0;
    }

    private boolean isHouse(int house) {
        return house >= 0 && house < rules.text.houses && house < MAX_HOUSES;
    }

    private boolean areTwo(int house, int other) {
        return isHouse(house) && isHouse(other) && house != other;
    }

    private boolean isPlace(int place) {
        return place >= 0 && place < state.plaits && place < MAX_HOUSES;
    }

    private boolean isKnown(int k) {
        return k >= 0 && k <= feeler.told;
    }

    private static boolean isHaul(int w) {
        return w >= 0 && w <= MAX_HAUL;
    }

    private static boolean isValue(int v) {
        return v >= 0 && v <= MAX_VALUE;
    }

    private static boolean isRowLength(int l) {
        return l >= 1 && l <= MAX_HOUSES;
    }

    private static boolean isSlot(int slot) {
        return slot >= 0 && slot < MAX_SLOTS;
    }

    private static int lowerPlaceOf(int spot) {
        return (spot + 1) / 2;
    }

    /** The bytes fed and not yet read, and the TOKENS that they are cut into: kind, first byte, number or name. */
    private static final class Tape {
        // Kinds that are no sign; a sign's kind is its own character.
        static final int END = 0;
        static final int BAD = 1;
        static final int NAME = 2;
        static final int INT = 3;
        static final int WORD = 256;

        static final int HOUSE = WORD;
        static final int LIKES = WORD + 1;
        static final int WELL = WORD + 2;
        static final int WATER = WORD + 3;
        static final int FIRST_LAW = WORD + 4;
        static final int BLIGHT = WORD + 8;
        static final int SEED = WORD + 9;
        static final int IF = WORD + 10;
        static final int THEN = WORD + 11;
        static final int ELSE = WORD + 12;
        static final int FIRST_VAR = WORD + 13;

        private static final int INT_WIDTH = 4;
        private static final int NAME_BASE = 32;
        // The grammar's words in quotes, in the order of their kinds; WORD_WIDTH is a NAME's greatest, too.
        private static final int WORD_WIDTH = 8;
        private static final String WORDS = "house   likes   well    water   grows   weakens joins   costs   blight  seed    if      then    else    hair    strong  like    year    place   which   spliced given   other   ";
        private static final String SIGNS = ";=+-*/<()";

        // The first TOKEN too many is cut, too: it is where the FAULT is.
        private static final int ROOM = MAX_TOKENS + 1;

        private final byte[] bytes = new byte[MAX_TAPE];
        private final int[] kinds = new int[ROOM];
        private final int[] starts = new int[ROOM];
        private final long[] values = new long[ROOM];
        private int current;
        int length;
        // Of the TOKEN that stands next.
        int kind;
        int start;
        long value;

        void put(int four) {
            for (int shift = 24; shift >= 0; shift -= 8) {
                if (length >= 0 && length < MAX_TAPE) {
                    bytes[length] = (byte) (four >>> shift);
                    length++;
                }
            }
        }

        /** The byte (0 .. 255) at a place, NONE behind the end. */
        private int byteAt(int place) {
            return place >= 0 && place < length && place < MAX_TAPE ? bytes[place] & 255 : NONE;
        }

        boolean isBeyondRoom() {
            return current >= MAX_TOKENS;
        }

        /** Goes on to the next TOKEN. */
        void step() {
            int next = current + 1;
            if (next >= 0 && next < ROOM) {
                current = next;
                kind = kinds[next];
                start = starts[next];
                value = values[next];
            }
        }

        /** Cuts the bytes into TOKENS and stands at the first one. */
        void scan() {
            int next = 0;
            boolean more = true;
            for (int token = 0; token < ROOM && more; token++) {
                int first = skipBlanks(next);
                next = cut(token, first);
                more = next > first;
            }
            current = NONE;
            step();
        }

        private int skipBlanks(int from) {
            int place = from;
            while (place < length && isBlank(byteAt(place))) {
                place++;
            }
            return place;
        }

        /** Cuts one TOKEN: the place behind it, or its own one at the text's end. */
        private int cut(int token, int from) {
            int first = byteAt(from);
            if (first == NONE) {
                return keepToken(token, END, from, 0L, from);
            }
            if (isLetter(first)) {
                return cutWord(token, from);
            }
            if (isDigit(first)) {
                return cutInt(token, from);
            }
            int sign = SIGNS.indexOf((char) first) >= 0 ? first : BAD;
            return keepToken(token, sign, from, 0L, from + 1);
        }

        private int cutWord(int token, int from) {
            int end = from;
            long packed = 0L;
            while (end < length && isLetter(byteAt(end))) {
                packed = packed * NAME_BASE + (byteAt(end) - 'a' + 1);
                end++;
            }
            if (end - from > WORD_WIDTH) {
                return keepToken(token, BAD, from, 0L, end);
            }
            int word = wordAt(from, end - from);
            return keepToken(token, word < 0 ? NAME : WORD + word, from, packed, end);
        }

        private int cutInt(int token, int from) {
            int end = from;
            long number = 0L;
            while (end < length && isDigit(byteAt(end))) {
                number = number * 10 + (byteAt(end) - '0');
                end++;
            }
            return keepToken(token, end - from > INT_WIDTH ? BAD : INT, from, number, end);
        }

        private int keepToken(int token, int kindCut, int from, long valueCut, int end) {
            if (token >= 0 && token < ROOM) {
                kinds[token] = kindCut;
                starts[token] = from;
                values[token] = valueCut;
            }
            return end;
        }

        /** The number of the word in quotes that stands there, NONE if it is another one. */
        private int wordAt(int from, int width) {
            for (int word = 0; word + WORD_WIDTH <= WORDS.length(); word += WORD_WIDTH) {
                if (isWordAt(from, width, word)) {
                    return word / WORD_WIDTH;
                }
            }
            return NONE;
        }

        private boolean isWordAt(int from, int width, int word) {
            for (int i = 0; i < WORD_WIDTH; i++) {
                int due = i < width ? byteAt(from + i) : ' ';
                if (word < 0 || word + i >= WORDS.length() || WORDS.charAt(word + i) != due) {
                    return false;
                }
            }
            return true;
        }

        private static boolean isBlank(int c) {
            return c == 9 || c == 10 || c == 13 || c == 32;
        }

        private static boolean isLetter(int c) {
            return c >= 'a' && c <= 'z';
        }

        private static boolean isDigit(int c) {
            return c >= '0' && c <= '9';
        }
    }

    /** Reads a tape's TOKENS by the grammar, into a Text; finds the text's FAULT. */
    private static final class Parser {
        private static final int SYNTAX = 1;
        private static final int ROOM = 2;
        private static final int TWICE = 3;
        private static final int UNKNOWN = 4;
        private static final int WRONG = 5;

        private final Tape tokens;
        private Text text;
        // SYNTAX or ROOM: once it is set, no TOKEN is taken any more, so the next one is where it is.
        private int fault;
        // The first one of the others, which are told only if there is no SYNTAX and no ROOM.
        private int laterFault;
        private int laterPlace;
        int faultPlace;

        Parser(Tape tape, Text first) {
            tokens = tape;
            text = first;
        }

        /** The number of the FAULT, 0 without; what has been read is in the text given. */
        int parse(Text into) {
            text = into;
            text.clear();
            fault = 0;
            laterFault = 0;
            tokens.scan();
            for (int tell = 0; tell <= MAX_TOKENS && fault == 0 && tokens.kind != Tape.END; tell++) {
                switch (tokens.kind) {
                    case Tape.HOUSE: parseHouse(); break;
                    case Tape.LIKES: parseLikes(); break;
                    case Tape.WELL: text.well = parseNumber(1, 99); break;
                    case Tape.WATER: text.water = parseNumber(0, 99); break;
                    case Tape.BLIGHT: text.blight = parseNumber(0, 100); break;
                    case Tape.SEED: text.seed = parseNumber(0, 9999); break;
                    default: parseLaw(tokens.kind - Tape.FIRST_LAW); break;
                }
            }
            faultPlace = fault == 0 ? laterPlace : tokens.start;
            return fault == 0 ? laterFault : fault;
        }

        private void parseHouse() {
            if (text.houses >= MAX_HOUSES) {
                fault = ROOM;
                return;
            }
            take(Tape.HOUSE);
            long name = tokens.value;
            int namePlace = tokens.start;
            if (take(Tape.NAME) && text.houseNamed(name) >= 0) {
                failLater(TWICE, namePlace);
            }
            int hair = takeInt(0, 20);
            int strong = takeInt(1, 99);
            take(';');
            text.addHouse(name, hair, strong);
        }

        private void parseLikes() {
            if (text.likesTold >= MAX_LIKES) {
                fault = ROOM;
                return;
            }
            take(Tape.LIKES);
            int first = takeHouse();
            int secondPlace = tokens.start;
            int second = takeHouse();
            if (first >= 0 && first == second) {
                failLater(TWICE, secondPlace);
            }
            int like = takeInt(0, 9);
            take(';');
            text.likesTold++;
            text.setLike(first, second, like);
        }

        private int parseNumber(int least, int greatest) {
            take(tokens.kind);
            int number = takeInt(least, greatest);
            take(';');
            return number;
        }

        private void parseLaw(int law) {
            if (law < 0 || law >= LAWS) {
                fault = SYNTAX;
                return;
            }
            take(tokens.kind);
            take('=');
            int begin = text.laws.length;
            for (int ifs = 0; ifs < MAX_IFS && fault == 0 && tokens.kind == Tape.IF; ifs++) {
                take(Tape.IF);
                expression(0);
                take('<');
                expression(0);
                int jump = text.laws.length;
                text.laws.emit(Laws.UNLESS_LESS, 0);
                take(Tape.THEN);
                expression(0);
                text.laws.emit(Laws.ANSWER, 0);
                take(Tape.ELSE);
                text.laws.aimHere(jump);
            }
            if (fault == 0 && tokens.kind == Tape.IF) {
                fault = ROOM;
            }
            expression(0);
            text.laws.emit(Laws.ANSWER, 0);
            take(';');
            text.laws.begin(law, begin);
        }

        private void expression(int depth) {
            part(depth);
            for (int i = 0; i < MAX_TOKENS && fault == 0 && (tokens.kind == '+' || tokens.kind == '-'); i++) {
                int operation = tokens.kind == '+' ? Laws.ADD : Laws.SUBTRACT;
                take(tokens.kind);
                part(depth);
                text.laws.emit(operation, 0);
            }
        }

        private void part(int depth) {
            unit(depth);
            for (int i = 0; i < MAX_TOKENS && fault == 0 && (tokens.kind == '*' || tokens.kind == '/'); i++) {
                int operation = tokens.kind == '*' ? Laws.MULTIPLY : Laws.DIVIDE;
                take(tokens.kind);
                unit(depth);
                text.laws.emit(operation, 0);
            }
        }

        private void unit(int depth) {
            int kind = tokens.kind;
            if (fault != 0) {
                return;
            }
            if (kind == '(' && depth >= MAX_NESTING) {
                fault = ROOM;
            } else if (kind == '(') {
                take('(');
                expression(depth + 1);
                take(')');
            } else if (kind == Tape.INT) {
                text.laws.emit(Laws.NUMBER, (int) tokens.value);
                take(kind);
            } else if (kind >= Tape.FIRST_VAR && kind < Tape.FIRST_VAR + VARS) {
                text.laws.emit(Laws.LOOK, kind - Tape.FIRST_VAR);
                take(kind);
            } else {
                fault = SYNTAX;
            }
        }

        /** The HOUSE whose NAME stands here, NONE if there is none. */
        private int takeHouse() {
            int house = text.houseNamed(tokens.value);
            int namePlace = tokens.start;
            if (take(Tape.NAME) && house < 0) {
                failLater(UNKNOWN, namePlace);
            }
            return house;
        }

        private int takeInt(int least, int greatest) {
            int number = (int) tokens.value;
            int numberPlace = tokens.start;
            if (take(Tape.INT) && (number < least || number > greatest)) {
                failLater(WRONG, numberPlace);
            }
            return number;
        }

        private boolean take(int kind) {
            if (fault != 0) {
                return false;
            }
            if (tokens.kind != kind) {
                fault = SYNTAX;
            } else if (tokens.isBeyondRoom()) {
                fault = ROOM;
            } else {
                tokens.step();
            }
            return fault == 0;
        }

        /** TOKENS are read by their places, so the first one that comes here is the one to tell. */
        private void failLater(int number, int atByte) {
            if (laterFault == 0) {
                laterFault = number;
                laterPlace = atByte;
            }
        }
    }

    /** The LAWS as steps over a stack of ints, all in one row. */
    private static final class Laws {
        static final int NUMBER = 0;
        static final int LOOK = 1;
        static final int ADD = 2;
        static final int SUBTRACT = 3;
        static final int MULTIPLY = 4;
        static final int DIVIDE = 5;
        static final int UNLESS_LESS = 6;
        static final int ANSWER = 7;

        // A TOKEN makes one step at most; the LAWS that hold untold come ahead of those told.
        private static final int ROOM = MAX_TOKENS + 32;
        // Each ( keeps two ints waiting at most, a comparison one.
        private static final int STACK = 2 * (MAX_NESTING + 1) + 8;

        private final int[] steps = new int[ROOM];
        private final int[] aims = new int[ROOM];
        private final int[] starts = new int[LAWS];
        private final int[] stack = new int[STACK];
        int length;

        void clear() {
            length = 0;
            begin(GROWS, 0);
            begin(WEAKENS, 0);
            emit(NUMBER, 1);
            emit(ANSWER, 0);
            begin(JOINS, length);
            emit(LOOK, LIKE);
            emit(NUMBER, 10);
            emit(MULTIPLY, 0);
            emit(ANSWER, 0);
            begin(COSTS, length);
            emit(LOOK, HAIR);
            emit(ANSWER, 0);
        }

        void begin(int law, int start) {
            if (law >= 0 && law < LAWS) {
                starts[law] = start;
            }
        }

        void emit(int step, int aim) {
            if (length >= 0 && length < ROOM) {
                steps[length] = step;
                aims[length] = aim;
                length++;
            }
        }

        void aimHere(int jump) {
            if (jump >= 0 && jump < ROOM) {
                aims[jump] = length;
            }
        }

        /** What a LAW comes to, by what it looks at; 0 once something looked at is divided by 0. */
        int answer(int law, int[] seen) {
            int next = law >= 0 && law < LAWS ? starts[law] : NONE;
            int top = 0;
            for (int i = 0; i < ROOM && next >= 0 && next < ROOM && next < length; i++) {
                int step = steps[next];
                int aim = aims[next];
                next++;
                if (step == ANSWER) {
                    return top > 0 ? stack[0] : 0;
                }
                if (step == NUMBER || step == LOOK) {
                    if (top >= STACK || aim < 0 || step == LOOK && aim >= seen.length) {
                        return 0;
                    }
                    stack[top] = step == NUMBER ? aim : seen[aim];
                    top++;
                } else {
                    if (top < 2 || step == DIVIDE && stack[top - 1] == 0) {
                        return 0;
                    }
                    top -= 2;
                    if (step != UNLESS_LESS) {
                        stack[top] = reckon(step, stack[top], stack[top + 1]);
                        top++;
                    } else if (stack[top] >= stack[top + 1]) {
                        next = aim;
                    }
                }
            }
            return 0;
        }

        private static int reckon(int step, int left, int right) {
            switch (step) {
                case ADD: return left + right;
                case SUBTRACT: return left - right;
                case MULTIPLY: return left * right;
                default: return right == 0 ? 0 : left / right;
            }
        }
    }

    /** What a text tells. */
    private static final class Text {
        private static final int UNTOLD_LIKE = 5;
        private static final int UNTOLD_WELL = 20;
        private static final int UNTOLD_WATER = 10;

        private final long[] names = new long[MAX_HOUSES];
        private final int[] likeRows = new int[MAX_HOUSES * MAX_HOUSES];
        final int[] hair = new int[MAX_HOUSES];
        final int[] strong = new int[MAX_HOUSES];
        final Laws laws = new Laws();
        int houses;
        int likesTold;
        int well;
        int water;
        int blight;
        int seed;

        Text() {
            clear();
        }

        void clear() {
            Arrays.fill(likeRows, UNTOLD_LIKE);
            laws.clear();
            houses = 0;
            likesTold = 0;
            well = UNTOLD_WELL;
            water = UNTOLD_WATER;
            blight = 0;
            seed = 0;
        }

        void addHouse(long name, int hairToldFirst, int strongToldFirst) {
            if (houses >= 0 && houses < MAX_HOUSES) {
                names[houses] = name;
                hair[houses] = hairToldFirst;
                strong[houses] = strongToldFirst;
                houses++;
            }
        }

        int houseNamed(long name) {
            for (int house = 0; house < houses && house < MAX_HOUSES; house++) {
                if (names[house] == name) {
                    return house;
                }
            }
            return NONE;
        }

        int likeOf(int house, int other) {
            return isIn(house) && isIn(other) ? likeRows[house * MAX_HOUSES + other] : UNTOLD_LIKE;
        }

        void setLike(int house, int other, int like) {
            if (isIn(house) && isIn(other)) {
                likeRows[house * MAX_HOUSES + other] = like;
                likeRows[other * MAX_HOUSES + house] = like;
            }
        }

        private static boolean isIn(int house) {
            return house >= 0 && house < MAX_HOUSES;
        }
    }

    /** All that goes on: HAIR, the ROPE, the year, what was drawn and given. */
    private static final class State {
        final int[] hair = new int[MAX_HOUSES];
        final int[] given = new int[MAX_HOUSES];
        // Of the PLAITS, by their places.
        final int[] whose = new int[MAX_HOUSES];
        final int[] length = new int[MAX_HOUSES];
        final int[] strength = new int[MAX_HOUSES];
        int houses;
        int plaits;
        int year;
        int drawn;

        void begin(Text text) {
            System.arraycopy(text.hair, 0, hair, 0, MAX_HOUSES);
            Arrays.fill(given, 0);
            houses = text.houses;
            plaits = 0;
            year = 0;
            drawn = 0;
        }

        void copyFrom(State from) {
            System.arraycopy(from.hair, 0, hair, 0, MAX_HOUSES);
            System.arraycopy(from.given, 0, given, 0, MAX_HOUSES);
            System.arraycopy(from.whose, 0, whose, 0, MAX_HOUSES);
            System.arraycopy(from.length, 0, length, 0, MAX_HOUSES);
            System.arraycopy(from.strength, 0, strength, 0, MAX_HOUSES);
            houses = from.houses;
            plaits = from.plaits;
            year = from.year;
            drawn = from.drawn;
        }

        void addPlait(int house, int strong) {
            if (house >= 0 && house < MAX_HOUSES && plaits >= 0 && plaits < MAX_HOUSES) {
                whose[plaits] = house;
                length[plaits] = hair[house];
                strength[plaits] = strong;
                hair[house] = 0;
                given[house]++;
                plaits++;
            }
        }

        void exchange(int place, int other) {
            exchangeIn(whose, place, other);
            exchangeIn(length, place, other);
            exchangeIn(strength, place, other);
        }

        private static void exchangeIn(int[] row, int place, int other) {
            if (place >= 0 && place < row.length && other >= 0 && other < row.length) {
                int kept = row[place];
                row[place] = row[other];
                row[other] = kept;
            }
        }

        int placeOf(int house) {
            for (int place = 0; place < plaits && place < MAX_HOUSES; place++) {
                if (whose[place] == house) {
                    return place;
                }
            }
            return NONE;
        }

        int ropeLength() {
            return lengthBelow(-1);
        }

        int lengthBelow(int place) {
            int sum = 0;
            for (int lower = Math.max(place + 1, 0); lower < plaits && lower < MAX_HOUSES; lower++) {
                sum += length[lower];
            }
            return sum;
        }

        int sumOfStrength() {
            int sum = 0;
            for (int place = 0; place < plaits && place < MAX_HOUSES; place++) {
                sum += strength[place];
            }
            return sum;
        }

        int housesInRope() {
            int bits = 0;
            for (int place = 0; place < plaits && place < MAX_HOUSES; place++) {
                bits |= 1 << whose[place];
            }
            return bits;
        }

        int sumOfHair() {
            int sum = 0;
            for (int house = 0; house < houses && house < MAX_HOUSES; house++) {
                sum += hair[house];
            }
            return sum;
        }

        int sumOfGiven() {
            int sum = 0;
            for (int house = 0; house < houses && house < MAX_HOUSES; house++) {
                sum += given[house];
            }
            return sum;
        }

        int housesWithoutHair() {
            int bits = 0;
            for (int house = 0; house < houses && house < MAX_HOUSES; house++) {
                if (hair[house] == 0) {
                    bits |= 1 << house;
                }
            }
            return bits;
        }
    }

    /** How LAWS, YEARS and loads go, for any State of the text. */
    private static final class Rules {
        private static final int LOT_CASES = 100;
        private static final int LOT_SALT = 219;
        private static final int LOT_YEAR = 8;
        private static final int SPOTS = 2 * MAX_HOUSES - 1;

        // What a haul may be at each spot: PLAIT p at 2p, the JOIN above it at 2p - 1, so that higher ones come first.
        private final int[] margins = new int[SPOTS];
        private final int[] seen = new int[VARS];
        private int spots;
        Text text;

        Rules(Text first) {
            text = first;
        }

        int lawOf(int law, State state, int house) {
            lookAt(state, house, state.placeOf(house));
            return Math.max(0, Math.min(MAX_VALUE, text.laws.answer(law, seen)));
        }

        int joinOf(State state, int above, int lower, int like) {
            lookAt(state, above, state.placeOf(above));
            seen[LIKE] = like;
            seen[OTHER] = strongOf(state, lower, state.placeOf(lower));
            return Math.max(0, Math.min(MAX_HAUL, text.laws.answer(JOINS, seen)));
        }

        /** JOINS of the PLAIT at a place and the one upon it. */
        int joinAbove(State state, int place) {
            if (place < 1 || place >= MAX_HOUSES) {
                return 0;
            }
            int above = state.whose[place - 1];
            int lower = state.whose[place];
            return joinOf(state, above, lower, text.likeOf(above, lower));
        }

        private void lookAt(State state, int house, int place) {
            if (house < 0 || house >= MAX_HOUSES) {
                return;
            }
            seen[HAIR] = state.hair[house];
            seen[STRONG] = strongOf(state, house, place);
            seen[LIKE] = 0;
            seen[YEAR] = state.year;
            seen[PLACE] = Math.max(place, 0);
            seen[WHICH] = house;
            seen[SPLICED] = state.plaits;
            seen[GIVEN] = state.given[house];
            seen[OTHER] = 0;
        }

        /** How STRONG a HOUSE is: its PLAIT, at a place of 0 or more, else as told at first. */
        int strongOf(State state, int house, int place) {
            if (place >= 0 && place < MAX_HOUSES) {
                return state.strength[place];
            }
            return house >= 0 && house < MAX_HOUSES ? text.strong[house] : 0;
        }

        void ageAll(State state, int blight, int seed) {
            for (int house = 0; house < text.houses; house++) {
                ageHouse(state, house, blight, seed);
            }
            state.year++;
        }

        /** A YEAR of one HOUSE: its LAWS look at nothing that the YEAR changes of other ones. */
        void ageHouse(State state, int house, int blight, int seed) {
            if (house < 0 || house >= MAX_HOUSES) {
                return;
            }
            int place = state.placeOf(house);
            int grows = lawOf(GROWS, state, house);
            if (place >= 0) {
                int weakens = lawOf(WEAKENS, state, house);
                state.strength[place] = Math.max(0, state.strength[place] - weakens);
            }
            if (lot(seed, LOT_YEAR * state.year + house) < blight) {
                state.hair[house] /= 2;
            } else {
                state.hair[house] = Math.min(MAX_VALUE, state.hair[house] + grows);
            }
        }

        private static int lot(int seed, int which) {
            int h = mix(mix(seed, LOT_SALT), which);
            return (h >>> 1) % LOT_CASES;
        }

        private static int mix(int h, int it) {
            int mixed = (h ^ it) * 1103515245 + 12345;
            return mixed ^ (mixed >>> 15);
        }

        /** Finds what a haul may be at each spot of the ROPE. */
        void weigh(State state) {
            int hanging = 0;
            spots = Math.max(0, 2 * state.plaits - 1);
            for (int place = Math.min(state.plaits, MAX_HOUSES) - 1; place >= 0; place--) {
                margins[2 * place] = state.strength[place] - hanging;
                hanging += state.length[place];
                if (place > 0) {
                    margins[2 * place - 1] = joinAbove(state, place) - hanging;
                }
            }
        }

        /** The highest spot of what was weighed that BREAKS at a haul; NONE if nothing does. */
        int highestBreak(int w) {
            for (int spot = 0; spot < spots && spot < SPOTS; spot++) {
                if (margins[spot] < w) {
                    return spot;
                }
            }
            return NONE;
        }

        int greatestHaul() {
            int most = MAX_HAUL;
            for (int spot = 0; spot < spots && spot < SPOTS; spot++) {
                most = Math.min(most, margins[spot]);
            }
            return most < 0 ? NEVER : most;
        }
    }

    /** What was, to be undone, and what SLOTS hold. */
    private static final class History {
        private final State[] past = new State[MAX_UNDO];
        private final State[] slots = new State[MAX_SLOTS];
        private int oldest;
        int size;
        int heldSlots;

        History() {
            for (int i = 0; i < MAX_UNDO; i++) {
                past[i] = new State();
            }
            for (int i = 0; i < MAX_SLOTS; i++) {
                slots[i] = new State();
            }
        }

        void clear() {
            oldest = 0;
            size = 0;
            heldSlots = 0;
        }

        /** Keeps how it is ahead of a thing done; the oldest one goes for it if there is no room. */
        void keep(State state) {
            if (size == MAX_UNDO) {
                oldest = (oldest + 1) % MAX_UNDO;
                size--;
            }
            State row = pastAt(size);
            if (row != null) {
                row.copyFrom(state);
                size++;
            }
        }

        boolean takeBack(State state) {
            State row = size > 0 ? pastAt(size - 1) : null;
            if (row == null) {
                return false;
            }
            state.copyFrom(row);
            size--;
            return true;
        }

        boolean fillSlot(int slot, State state) {
            State row = slotAt(slot);
            if (row == null) {
                return false;
            }
            row.copyFrom(state);
            heldSlots |= 1 << slot;
            return true;
        }

        boolean takeSlot(int slot, State state) {
            State row = slotAt(slot);
            if (row == null || (heldSlots & 1 << slot) == 0) {
                return false;
            }
            state.copyFrom(row);
            size = 0;
            return true;
        }

        private State pastAt(int number) {
            int i = (oldest + number) % MAX_UNDO;
            return i >= 0 && i < MAX_UNDO ? past[i] : null;
        }

        private State slotAt(int slot) {
            return slot >= 0 && slot < MAX_SLOTS ? slots[slot] : null;
        }
    }

    /** What would be of the ROPE and the HAIR as they are. */
    private static final class Forecast {
        private final Rules rules;
        private final State trial = new State();
        int harvestStep;
        int harvestSum;

        Forecast(Rules rulesToKeep) {
            rules = rulesToKeep;
        }

        int yearsUntilBroken(State now, int w) {
            trial.copyFrom(now);
            for (int years = 0; years <= MAX_YEARS; years++) {
                rules.weigh(trial);
                if (rules.highestBreak(w) >= 0) {
                    return years;
                }
                rules.ageAll(trial, 0, 0);
            }
            return NEVER;
        }

        int yearsUntilHeld(Planner planner, State now, int w) {
            trial.copyFrom(now);
            for (int years = 0; years <= MAX_YEARS; years++) {
                planner.lookAt(trial);
                planner.survey(w);
                if (planner.ropes > 0) {
                    return years;
                }
                rules.ageAll(trial, 0, 0);
            }
            return NEVER;
        }

        void findHarvest(State now, int house, int years) {
            harvestStep = 0;
            harvestSum = NONE;
            for (int step = 1; step <= years; step++) {
                int sum = harvestOf(now, house, years, step);
                if (sum > harvestSum) {
                    harvestStep = step;
                    harvestSum = sum;
                }
            }
        }

        private int harvestOf(State now, int house, int years, int step) {
            trial.copyFrom(now);
            int sum = 0;
            if (house < 0 || house >= MAX_HOUSES || step < 1) {
                return sum;
            }
            for (int gone = 1; gone <= years; gone++) {
                rules.ageHouse(trial, house, 0, 0);
                trial.year++;
                if (gone % step == 0 || gone == years) {
                    sum += trial.hair[house];
                    trial.hair[house] = 0;
                }
            }
            return sum;
        }

        int bestSwap(State now) {
            rules.weigh(now);
            int best = rules.greatestHaul();
            int places = NEVER;
            for (int higher = 0; higher < now.plaits; higher++) {
                for (int lower = higher + 1; lower < now.plaits; lower++) {
                    trial.copyFrom(now);
                    trial.exchange(higher, lower);
                    rules.weigh(trial);
                    if (rules.greatestHaul() > best) {
                        best = rules.greatestHaul();
                        places = 10 * higher + lower;
                    }
                }
            }
            return places;
        }

        /** YEARS of one HOUSE, with BLIGHT by a SEED; hairThen and strengthThen tell how it is behind them. */
        void passYears(State now, int house, int years, int seed) {
            trial.copyFrom(now);
            for (int i = 0; i < years; i++) {
                rules.ageHouse(trial, house, rules.text.blight, seed);
                trial.year++;
            }
        }

        int hairThen(int house) {
            return house >= 0 && house < MAX_HOUSES ? trial.hair[house] : 0;
        }

        int strengthThen(int house) {
            int place = trial.placeOf(house);
            return place < 0 ? 0 : trial.strength[place];
        }
    }

    /** PLANNED ROPES of a State, reckoned by which HOUSES are in them and which one is at the top. */
    private static final class Planner {
        private static final int SETS = 1 << MAX_HOUSES;
        private static final int ROPES = SETS * MAX_HOUSES;

        private final Rules rules;
        private final int[] strongs = new int[MAX_HOUSES];
        private final int[] joinRows = new int[MAX_HOUSES * MAX_HOUSES];
        private final int[] peaceRows = new int[MAX_HOUSES * MAX_HOUSES];
        // By set and top: the greatest haul that an order of them bears; of those that bear the one wanted how many
        // there are, and the first (its HOUSES from the top, by 6).
        private final int[] hauls = new int[ROPES];
        private final int[] ways = new int[ROPES];
        private final int[] codes = new int[ROPES];
        private int wanted;
        private int fewestCode;
        // What HOUSES have to give, by set (bits), and who has anything.
        private final int[] sums = new int[SETS];
        int able;
        // Of those that HOLD what was asked for: how many, the greatest haul, the fewest PLAITS, HOUSES in all.
        int ropes;
        int peakHaul;
        int fewestPlaits;
        int inAll;

        Planner(Rules rulesToKeep) {
            rules = rulesToKeep;
        }

        void lookAt(State state) {
            lookAtHouses(state);
            findJoins(state, joinRows, false);
        }

        private void findJoins(State state, int[] joinsToFind, boolean atPeace) {
            for (int above = 0; above < rules.text.houses; above++) {
                for (int lower = 0; lower < rules.text.houses; lower++) {
                    int i = above * MAX_HOUSES + lower;
                    if (above != lower && isAble(above) && isAble(lower) && i < joinsToFind.length) {
                        int like = atPeace ? BEST_LIKE : rules.text.likeOf(above, lower);
                        joinsToFind[i] = rules.joinOf(state, above, lower, like);
                    }
                }
            }
        }

        /** What each HOUSE has, without the JOINS. */
        void lookAtHouses(State state) {
            able = 0;
            for (int house = 0; house < rules.text.houses && house < MAX_HOUSES; house++) {
                int place = state.placeOf(house);
                int has = place < 0 ? state.hair[house] : state.length[place];
                strongs[house] = rules.strongOf(state, house, place);
                able |= has > 0 ? 1 << house : 0;
                addToSums(1 << house, has);
            }
        }

        /** Sets with a HOUSE are numbered behind all sets of the HOUSES ahead of it. */
        private void addToSums(int bit, int has) {
            for (int set = 0; set < bit && (set | bit) < SETS; set++) {
                sums[set | bit] = sums[set] + has;
            }
        }

        private boolean isAble(int house) {
            return (able & 1 << house) != 0;
        }

        /** Whether what HOUSES have, added, is as the WELL is deep or more. */
        boolean reaches(int set) {
            return set >= 0 && set < SETS && sums[set] >= rules.text.well;
        }

        /** Goes through the sets, each behind those that it is made of. */
        void survey(int w) {
            wanted = w;
            ropes = 0;
            peakHaul = NEVER;
            fewestPlaits = MAX_HOUSES + 1;
            fewestCode = 0;
            inAll = able;
            for (int set = 1; set < SETS; set++) {
                if ((set & ~able) == 0) {
                    surveySet(set);
                }
            }
        }

        private void surveySet(int set) {
            for (int top = 0; top < MAX_HOUSES; top++) {
                if ((set & 1 << top) != 0) {
                    build(set, top);
                    if (reaches(set)) {
                        note(set, set * MAX_HOUSES + top);
                    }
                }
            }
        }

        /** All ropes of a set with a HOUSE at the top: it is put upon each rope of the others. */
        private void build(int set, int top) {
            int rope = set * MAX_HOUSES + top;
            int rest = set & ~(1 << top);
            if (top < 0 || top >= MAX_HOUSES || rope < 0 || rope >= ROPES) {
                return;
            }
            hauls[rope] = rest == 0 ? Math.min(MAX_HAUL, strongs[top]) : NEVER;
            ways[rope] = hauls[rope] >= wanted ? 1 : 0;
            codes[rope] = top;
            int code = top * powerOfSix(Integer.bitCount(rest));
            for (int next = 0; next < MAX_HOUSES; next++) {
                if ((rest & 1 << next) != 0) {
                    int bears = Math.min(strongs[top], joinRows[top * MAX_HOUSES + next]) - sums[rest];
                    putUpon(rope, rest * MAX_HOUSES + next, bears, code);
                }
            }
        }

        private void putUpon(int rope, int lower, int bears, int code) {
            if (rope < 0 || rope >= ROPES || lower < 0 || lower >= ROPES) {
                return;
            }
            int haul = Math.min(bears, hauls[lower]);
            hauls[rope] = Math.max(hauls[rope], haul);
            if (haul >= wanted) {
                int whole = code + codes[lower];
                codes[rope] = ways[rope] == 0 ? whole : Math.min(codes[rope], whole);
                ways[rope] += ways[lower];
            }
        }

        private void note(int set, int rope) {
            if (rope < 0 || rope >= ROPES || ways[rope] < 1) {
                return;
            }
            int size = Integer.bitCount(set);
            ropes += ways[rope];
            peakHaul = Math.max(peakHaul, hauls[rope]);
            inAll &= set;
            if (size < fewestPlaits || size == fewestPlaits && codes[rope] < fewestCode) {
                fewestPlaits = size;
                fewestCode = codes[rope];
            }
        }

        int fewestHouseAt(int place) {
            if (place < 0 || place >= fewestPlaits || fewestPlaits > MAX_HOUSES) {
                return NONE;
            }
            int weight = powerOfSix(fewestPlaits - 1 - place);
            return weight < 1 ? NONE : fewestCode / weight % MAX_HOUSES;
        }

        private static int powerOfSix(int exponent) {
            int power = 1;
            for (int i = 0; i < exponent && i < MAX_HOUSES; i++) {
                power *= MAX_HOUSES;
            }
            return power;
        }

        /** PEACE of what was looked at: how few pairs (what 0), the first one, the next one. */
        int makePeace(State state, int w, int what) {
            survey(w);
            if (ropes > 0) {
                return what == 0 ? 0 : NONE;
            }
            findJoins(state, peaceRows, true);
            int last = MAX_HOUSES * MAX_HOUSES;
            for (int first = 0; first < last; first++) {
                if (isPair(first) && holdsWith(first, first, w)) {
                    return peaceAnswer(1, first, NONE, what);
                }
            }
            for (int first = 0; first < last; first++) {
                for (int next = first + 1; next < last; next++) {
                    if (isPair(first) && isPair(next) && holdsWith(first, next, w)) {
                        return peaceAnswer(2, first, next, what);
                    }
                }
            }
            return NEVER;
        }

        private static int peaceAnswer(int pairs, int first, int next, int what) {
            if (what == 0) {
                return pairs;
            }
            int pair = what == 1 ? first : next;
            return pair < 0 ? NONE : 10 * (pair / MAX_HOUSES) + pair % MAX_HOUSES;
        }

        /** Whether a number stands for two HOUSES that can be in a rope, the lesser one first. */
        private boolean isPair(int pair) {
            int lesser = pair / MAX_HOUSES;
            int other = pair % MAX_HOUSES;
            return lesser < other && isAble(lesser) && isAble(other);
        }

        private boolean holdsWith(int first, int next, int w) {
            exchangePair(first);
            if (next != first) {
                exchangePair(next);
            }
            survey(w);
            boolean holds = ropes > 0;
            exchangePair(first);
            if (next != first) {
                exchangePair(next);
            }
            return holds;
        }

        private void exchangePair(int pair) {
            exchangeJoin(pair);
            exchangeJoin(pair % MAX_HOUSES * MAX_HOUSES + pair / MAX_HOUSES);
        }

        private void exchangeJoin(int i) {
            if (i >= 0 && i < joinRows.length && i < peaceRows.length) {
                int kept = joinRows[i];
                joinRows[i] = peaceRows[i];
                peaceRows[i] = kept;
            }
        }
    }

    /** GIVINGS: who would give and who would hide. */
    private static final class Giving {
        private static final int SETS = 1 << MAX_HOUSES;

        private final Rules rules;
        private final Planner planner;
        private final int[] costs = new int[MAX_HOUSES];
        int restCount;
        int firstRest;

        Giving(Rules rulesToKeep, Planner plannerToKeep) {
            rules = rulesToKeep;
            planner = plannerToKeep;
        }

        void lookAt(State state) {
            planner.lookAtHouses(state);
            for (int house = 0; house < rules.text.houses && house < MAX_HOUSES; house++) {
                costs[house] = state.placeOf(house) < 0 ? rules.lawOf(COSTS, state, house) : 0;
            }
        }

        void findRests() {
            restCount = 0;
            firstRest = NEVER;
            for (int set = 0; set < SETS; set++) {
                if ((set & ~planner.able) == 0 && isRest(set)) {
                    if (restCount == 0 || Integer.bitCount(set) < Integer.bitCount(firstRest)) {
                        firstRest = set;
                    }
                    restCount++;
                }
            }
        }

        private boolean isRest(int set) {
            for (int house = 0; house < MAX_HOUSES; house++) {
                int bit = 1 << house;
                if ((planner.able & bit) != 0 && gain(set ^ bit, house) > gain(set, house)) {
                    return false;
                }
            }
            return true;
        }

        private int gain(int set, int house) {
            int water = planner.reaches(set) ? rules.text.water : 0;
            boolean gives = house >= 0 && house < MAX_HOUSES && (set & 1 << house) != 0;
            return gives ? water - costs[house] : water;
        }

        int pivotBits() {
            int bits = 0;
            for (int house = 0; house < rules.text.houses && house < MAX_HOUSES; house++) {
                if (!planner.reaches(planner.able & ~(1 << house))) {
                    bits |= 1 << house;
                }
            }
            return bits;
        }
    }

    /** What is TOLD of a row of HOUSES unknown, and the ROWS that FIT. */
    private static final class Feeler {
        private final Rules rules;
        private final int[] places = new int[MAX_TOLD];
        private final int[] leasts = new int[MAX_TOLD];
        private final boolean[] sos = new boolean[MAX_TOLD];
        // By place: who may be there (bits), and how many ROWS have one there who is so.
        private final int[] fitting = new int[MAX_HOUSES];
        private final int[] soRows = new int[MAX_HOUSES];
        private final int[] row = new int[MAX_HOUSES];
        private int soHouses;
        int told;
        int fits;
        int firstRow;

        Feeler(Rules rulesToKeep) {
            rules = rulesToKeep;
        }

        void add(int place, int least, boolean so) {
            if (told >= 0 && told < MAX_TOLD) {
                places[told] = place;
                leasts[told] = least;
                sos[told] = so;
                told++;
            }
        }

        /** Finds the ROWS of a length that FIT what is KNOWN, and where in them those of v or more are. */
        void findRows(State state, int known, int length, int v) {
            fits = 0;
            firstRow = NEVER;
            soHouses = housesOf(state, v);
            Arrays.fill(soRows, 0);
            if (learn(state, known, length)) {
                fill(this, length, 0, 0, 0);
            }
        }

        /** Who may be at each place; false if something is KNOWN of a place that is not there. */
        private boolean learn(State state, int known, int length) {
            int all = (1 << rules.text.houses) - 1;
            Arrays.fill(fitting, all);
            for (int i = 0; i < known && i < told && i < MAX_TOLD; i++) {
                int place = places[i];
                if (place < 0 || place >= length || place >= MAX_HOUSES) {
                    return false;
                }
                int so = housesOf(state, leasts[i]);
                fitting[place] &= sos[i] ? so : ~so;
            }
            return true;
        }

        /** HOUSES that are STRONG v or more (bits). */
        private int housesOf(State state, int v) {
            int bits = 0;
            for (int house = 0; house < rules.text.houses; house++) {
                if (rules.strongOf(state, house, state.placeOf(house)) >= v) {
                    bits |= 1 << house;
                }
            }
            return bits;
        }

        private static void fill(Feeler feeler, int length, int place, int used, int code) {
            if (place >= length || place >= MAX_HOUSES) {
                feeler.note(place, code);
                return;
            }
            for (int house = 0; house < MAX_HOUSES; house++) {
                if ((feeler.fitting[place] & ~used & 1 << house) != 0) {
                    feeler.row[place] = house;
                    fill(feeler, length, place + 1, used | 1 << house, MAX_HOUSES * code + house);
                }
            }
        }

        private void note(int length, int code) {
            if (fits == 0) {
                firstRow = code;
            }
            fits++;
            for (int place = 0; place < length && place < MAX_HOUSES; place++) {
                if ((soHouses & 1 << row[place]) != 0) {
                    soRows[place]++;
                }
            }
        }

        int bestPlace(int length) {
            int best = NEVER;
            int fewest = fits + 1;
            for (int place = 0; fits > 0 && place < length && place < MAX_HOUSES; place++) {
                int left = Math.max(soRows[place], fits - soRows[place]);
                if (left < fewest) {
                    best = place;
                    fewest = left;
                }
            }
            return best;
        }
    }
}
