import java.util.Arrays;
import java.util.NoSuchElementException;

/** A kitchen with a pan, its slices, guests and sorts of pans, and plans for them; DOC.md says what each call promises. */
public final class PanSlices {
    public static final int NONE = -1;

    private static final int TOP = 0;
    private static final int UNDER = 1;
    private static final int FED_AT_ONCE = 20;
    private static final int MOST_FED = 640;
    private static final int MOST_KITCHEN_BYTES = 600;
    private static final int MOST_PLAN_BYTES = 600;
    private static final int MOST_SENTENCE_BYTES = 200;
    private static final int MOST_PLACES = 4;
    private static final int MOST_SLICES = 8;
    private static final int MOST_SIDES = 16;
    private static final int MOST_GUESTS = 8;
    private static final int MOST_SORTS = 5;
    private static final int MOST_LINES = 30;
    private static final int MOST_GOES = 400;
    private static final int MOST_MINUTE_TOLD = 240;
    private static final int MOST_SIDE_MINUTES = 20;
    private static final int LAST_BEGIN = 900;
    private static final int MINUTES = 1000;
    private static final int MOST_GO_BYTES = 18;
    private static final int IMAGES = 2;
    private static final int MOST_BROWN_SLICES = 5;
    private static final int MOST_ALIKE = 4000;
    private static final int COOK_RULES = 3;

    /** Pascal's triangle up to 5, six to a row. */
    private static final int[] CHOICES = {
        1, 0, 0, 0, 0, 0,
        1, 1, 0, 0, 0, 0,
        1, 2, 1, 0, 0, 0,
        1, 3, 3, 1, 0, 0,
        1, 4, 6, 4, 1, 0,
        1, 5, 10, 10, 5, 1,
    };

    private final State state = new State();
    private final State[] images = new State[IMAGES];
    private final History history = new History();
    private final Kitchen spareKitchen = new Kitchen();
    private final Plan sparePlan = new Plan();
    private final Sentence spareSentence = new Sentence();
    private final Tape tape = new Tape();
    private final Board board = new Board();
    private final Shortest shortest = new Shortest();
    private final Makers makers = new Makers();
    private final Servings servings = new Servings();
    private final Hotel rooms = new Hotel();
    private final byte[] text = new byte[MOST_GOES * MOST_GO_BYTES];
    private final long[] ways = new long[CHOICES.length];
    private final long[] waysNext = new long[CHOICES.length];
    private int textLength = 0;
    private int faultKind = 0;
    private int wrongKind = NONE;

    public PanSlices() {
        for (int k = 0; k < IMAGES; k++) {
            images[k] = new State();
        }
    }

    // ---- the tape and the texts ----

    public int feed(int a, int b, int c, int d, int e) {
        if (tape.fed > MOST_FED - FED_AT_ONCE) {
            return NONE;
        }
        tape.putNumber(a);
        tape.putNumber(b);
        tape.putNumber(c);
        tape.putNumber(d);
        tape.putNumber(e);
        return tape.fed;
    }

    public boolean end(int n) {
        if (n < 0 || n > tape.fed) {
            return false;
        }
        tape.fed = n;
        return true;
    }

    public int kitchen() {
        tape.open(MOST_KITCHEN_BYTES);
        if (!spareKitchen.read(tape)) {
            return tellFault();
        }
        faultKind = 0;
        state.kitchen.copyFrom(spareKitchen);
        state.plan.clear();
        state.sentence.clear();
        history.clear();
        return spareKitchen.lines;
    }

    public int fault() {
        return faultKind;
    }

    public int plan() {
        tape.open(MOST_PLAN_BYTES);
        if (!sparePlan.read(tape, state.kitchen)) {
            return tellFault();
        }
        faultKind = 0;
        adoptSpare();
        return sparePlan.size;
    }

    public int sentence() {
        tape.open(MOST_SENTENCE_BYTES);
        if (!spareSentence.read(tape, state.kitchen)) {
            return tellFault();
        }
        faultKind = 0;
        state.sentence.copyFrom(spareSentence);
        return spareSentence.ones;
    }

    private int tellFault() {
        faultKind = tape.faultKind;
        return NONE - tape.faultPlace;
    }

    // ---- what the KITCHEN has ----

    public int slice(int s, int what) throws NoSuchElementException {
        if (!state.kitchen.hasSlice(s) || what < 0 || what > 2) {
            throw new NoSuchElementException();
        }
        if (what == 2) {
            return state.kitchen.isOnce(s) ? 1 : 0;
        }
        return state.kitchen.need[2 * s + what];
    }

    public int guest(int g, int what) throws NoSuchElementException {
        if (g < 0 || g >= state.kitchen.guests || what < 0 || what > 1) {
            throw new NoSuchElementException();
        }
        return what == 0 ? state.kitchen.comes[g] : state.kitchen.worth[g];
    }

    public int sort(int k, int what) throws NoSuchElementException {
        if (k < 0 || k >= state.kitchen.sorts || what < 0 || what > 1) {
            throw new NoSuchElementException();
        }
        return what == 0 ? state.kitchen.sortPlaces[k] : state.kitchen.sortCost[k];
    }

    public int count(int what) {
        switch (what) {
            case 0: return state.kitchen.places;
            case 1: return state.kitchen.rest;
            case 2: return state.kitchen.cold;
            case 3: return state.kitchen.slices;
            case 4: return state.kitchen.guests;
            case 5: return state.kitchen.sorts;
            case 6: return state.plan.size;
            case 7: return tape.fed;
            default: return NONE;
        }
    }

    public int bound(int what) {
        switch (what) {
            case 0: return state.kitchen.longestSlice();
            case 1: return state.kitchen.minutesByPlaces();
            case 2: return state.kitchen.minutesOfAll(TOP);
            case 3: return state.kitchen.minutesOfAll(UNDER);
            default: return NONE;
        }
    }

    // ---- what the PLAN says ----

    public int judge() {
        board.clear();
        wrongKind = 0;
        for (int k = 0; k < state.plan.size; k++) {
            wrongKind = board.kindOfWrong(state.kitchen, state.plan, k);
            if (wrongKind != 0) {
                return k;
            }
            board.put(state.plan, k);
        }
        return NONE;
    }

    public int why() {
        return wrongKind;
    }

    public int go(int k, int what) {
        if (!state.plan.has(k)) {
            return NONE;
        }
        switch (what) {
            case 0: return state.plan.sideOf(k) / 2;
            case 1: return state.plan.sideOf(k) % 2;
            case 2: return state.plan.beginOf(k);
            case 3: return state.plan.placeOf(k);
            case 4: return state.plan.minutesOf(k);
            default: return NONE;
        }
    }

    public int left(int s, int side) throws NoSuchElementException {
        if (!state.kitchen.hasSlice(s) || side < TOP || side > UNDER) {
            throw new NoSuchElementException();
        }
        return state.lacking(2 * s + side);
    }

    public int ends() {
        return state.plan.lastEnd();
    }

    public int done() {
        return state.doneSlices();
    }

    public int on(int minute) {
        if (minute < 0 || minute >= MINUTES) {
            return NONE;
        }
        return state.plan.slicesIn(minute);
    }

    public int idle(int place) {
        if (place < 0 || place >= state.kitchen.places) {
            return NONE;
        }
        board.clear();
        for (int k = 0; k < state.plan.size; k++) {
            board.put(state.plan, k);
        }
        return board.freeMinutes(place, state.plan.lastEnd());
    }

    public int forgotten() {
        for (int side = 0; side < 2 * state.kitchen.slices; side++) {
            if (state.lacking(side) > 0) {
                return side;
            }
        }
        return NONE;
    }

    public int write() {
        textLength = 0;
        for (int k = 0; k < state.plan.size; k++) {
            int side = state.plan.sideOf(k);
            writeName(state.kitchen.nameOfSlice(side / 2));
            writeByte(' ');
            writeByte(side % 2 == TOP ? 't' : 'u');
            writeByte(' ');
            writeNumber(state.plan.beginOf(k));
            writeByte(' ');
            writeNumber(state.plan.placeOf(k));
            writeByte(' ');
            writeNumber(state.plan.minutesOf(k));
            writeByte(';');
        }
        return textLength;
    }

    private void writeName(int name) {
        for (int shift = 25; shift >= 0; shift -= 5) {
            int letter = name >>> shift & 31;
            if (letter != 0) {
                writeByte(Tape.BEFORE_LETTERS + letter);
            }
        }
    }

    private void writeNumber(int number) {
        if (number >= 100) {
            writeByte('0' + number / 100);
        }
        if (number >= 10) {
            writeByte('0' + number / 10 % 10);
        }
        writeByte('0' + number % 10);
    }

    private void writeByte(int sign) {
        if (textLength < text.length) {
            text[textLength] = (byte) sign;
            textLength++;
        }
    }

    public int byteAt(int i) {
        if (i < 0 || i >= textLength) {
            return NONE;
        }
        return text[i] & 255;
    }

    // ---- PLANS that are made ----

    public int several() {
        if (state.kitchen.slices == 0) {
            return NONE;
        }
        int minutes = makers.cutRow(state.kitchen, sparePlan);
        adoptSpare();
        return minutes;
    }

    public int one() {
        int minutes = shortest.make(state.kitchen, sparePlan);
        if (minutes != NONE) {
            adoptSpare();
        }
        return minutes;
    }

    public int masters() {
        if (state.kitchen.slices == 0) {
            return NONE;
        }
        makers.twoMasters(state.kitchen, sparePlan);
        adoptSpare();
        return state.plan.lastEnd();
    }

    public int cook(int rule) {
        if (state.kitchen.slices == 0 || rule < 0 || rule >= COOK_RULES) {
            return NONE;
        }
        int minutes = makers.oneCook(state.kitchen, rule, sparePlan);
        adoptSpare();
        return minutes;
    }

    public int best() {
        if (state.kitchen.slices == 0) {
            return NONE;
        }
        int found = 0;
        int least = makers.oneCook(state.kitchen, 0, sparePlan);
        for (int rule = 1; rule < COOK_RULES; rule++) {
            int minutes = makers.oneCook(state.kitchen, rule, sparePlan);
            if (minutes < least) {
                least = minutes;
                found = rule;
            }
        }
        return found;
    }

    private void adoptSpare() {
        history.keep(state.plan);
        state.plan.copyFrom(sparePlan);
    }

    // ---- changes of the PLAN ----

    public int add(int s, int side, int minute, int place, int n) {
        Kitchen kitchen = state.kitchen;
        boolean told = kitchen.hasSlice(s) && side >= TOP && side <= UNDER
            && minute >= 0 && minute <= MOST_MINUTE_TOLD
            && place >= 0 && place < kitchen.places
            && n >= 1 && n <= MOST_SIDE_MINUTES;
        if (!told || state.plan.size >= MOST_GOES) {
            return NONE;
        }
        history.keep(state.plan);
        return state.plan.append(2 * s + side, minute, place, n);
    }

    public boolean drop(int k) {
        if (!state.plan.has(k)) {
            return false;
        }
        history.keep(state.plan);
        state.plan.takeOut(k);
        return true;
    }

    public boolean later(int k, int by) {
        if (!state.plan.has(k) || by == 0) {
            return false;
        }
        long begin = (long) state.plan.beginOf(k) + by;
        if (begin < 0 || begin > LAST_BEGIN) {
            return false;
        }
        history.keep(state.plan);
        state.plan.moveTo(k, (int) begin);
        return true;
    }

    public int early() {
        sparePlan.copyFrom(state.plan);
        board.clear();
        int moved = 0;
        for (int k = 0; k < sparePlan.size; k++) {
            int begin = board.firstBegin(state.kitchen, sparePlan, k);
            if (begin < sparePlan.beginOf(k)) {
                sparePlan.moveTo(k, begin);
                moved++;
            }
            board.put(sparePlan, k);
        }
        if (moved > 0) {
            adoptSpare();
        }
        return moved;
    }

    public int undo() {
        if (history.size == 0) {
            return NONE;
        }
        history.giveBack(state.plan);
        return history.size;
    }

    // ---- SLICES alike, HOTEL and GUESTS ----

    public int fewest(int n, int minutes, int all) {
        boolean told = n >= 1 && n <= MOST_ALIKE
            && minutes >= 1 && minutes <= MOST_SIDE_MINUTES
            && all >= 1 && all < MINUTES;
        return told ? fewestPlaces(n, minutes, all) : NONE;
    }

    /** A PLACE takes so many sides one behind the other; a SLICE's two sides can't be on at once, so one round is not enough. */
    private static int fewestPlaces(int n, int minutes, int all) {
        int rounds = minutes < 1 ? 0 : all / minutes;
        return rounds < 2 ? NONE : (2 * n + rounds - 1) / rounds;
    }

    public int alike(int n, int k) {
        if (n < 1 || n > MOST_ALIKE || k < 1 || k > 60) {
            return NONE;
        }
        return Math.max(2, (2 * n + k - 1) / k);
    }

    public int alikeAt(int n, int k, int minute, int place) {
        int minutes = alike(n, k);
        if (minutes == NONE || minute < 0 || minute >= minutes || place < 0 || place >= k) {
            return NONE;
        }
        int side = place * minutes + minute;
        return side < 2 * n ? side : NONE;
    }

    public int hotel(int n, int minutes, int all) {
        boolean told = n >= 1 && n <= Hotel.MOST_WANTED
            && minutes >= 1 && minutes <= MOST_SIDE_MINUTES
            && all >= 1 && all <= 400;
        int wanted = told ? fewestPlaces(n, minutes, all) : NONE;
        if (wanted == NONE || state.kitchen.sorts == 0) {
            return NONE;
        }
        return rooms.buy(state.kitchen, wanted);
    }

    public int pans(int k) {
        if (k < 0 || k >= rooms.sorts) {
            return NONE;
        }
        return rooms.bought[k];
    }

    public int served(int minutes) {
        if (minutes < 1 || minutes > 40) {
            return NONE;
        }
        return servings.find(state.kitchen, minutes);
    }

    public int servedAt(int g) {
        if (g < 0 || g >= servings.guests) {
            return NONE;
        }
        return servings.minuteOf[g];
    }

    // ---- chances and ways ----

    public long mean(int s, int what) throws NoSuchElementException {
        if (!state.kitchen.hasSlice(s) || what < 0 || what > 1) {
            throw new NoSuchElementException();
        }
        // With q = (M - K) / M, the mean is (TOP + q * UNDER) / (q * q).
        long whole = state.kitchen.burnOf;
        long good = whole - state.kitchen.burns;
        long above = whole * (state.kitchen.need[2 * s] * whole + state.kitchen.need[2 * s + 1] * good);
        long below = good * good;
        long shared = greatestShared(above, below);
        if (shared == 0) {
            return 0;
        }
        return what == 0 ? above / shared : below / shared;
    }

    private static long greatestShared(long a, long b) {
        long greater = a;
        long lesser = b;
        for (int step = 0; step < 100 && lesser != 0; step++) {
            long over = greater % lesser;
            greater = lesser;
            lesser = over;
        }
        return greater;
    }

    public long brown(int m, int p) {
        int told = tape.fed;
        tape.fed = 0;
        if (m < 0 || m > 10 || p < 1 || p > MOST_PLACES || told < 1 || told > MOST_BROWN_SLICES) {
            return NONE;
        }
        int both = 0;
        int single = 0;
        for (int i = 0; i < told; i++) {
            int sides = tape.bytes[i];
            if (sides < 0 || sides > 3) {
                return NONE;
            }
            both += sides == 3 ? 1 : 0;
            single += sides == 1 || sides == 2 ? 1 : 0;
        }
        return waysToBrown(both, single, m, p);
    }

    /** Slices differ only in how many sides they still lack, so it is enough to count those with two and those with one. */
    private long waysToBrown(int both, int single, int minutes, int places) {
        Arrays.fill(ways, 0);
        ways[0] = 1;
        for (int minute = 0; minute < minutes; minute++) {
            for (int x = 0; x <= MOST_BROWN_SLICES; x++) {
                for (int y = 0; x + y <= MOST_BROWN_SLICES; y++) {
                    waysNext[6 * x + y] = waysOfMinute(x, y, places);
                }
            }
            System.arraycopy(waysNext, 0, ways, 0, ways.length);
        }
        return ways[6 * both + single];
    }

    private long waysOfMinute(int both, int single, int places) {
        long sum = 0;
        for (int i = 0; i <= both && i <= places; i++) {
            for (int j = 0; j <= single && i + j <= places; j++) {
                long chosen = (long) (CHOICES[6 * both + i] << i) * CHOICES[6 * single + j];
                sum += chosen * ways[6 * (both - i) + single - j + i];
            }
        }
        return sum;
    }

    public int morning(int seed) {
        return state.kitchen.slices == 0 ? NONE : makers.drawnMinutes(state.kitchen, seed);
    }

    public int mornings(int n, int seed) {
        if (state.kitchen.slices == 0 || n < 1 || n > 100) {
            return NONE;
        }
        int least = makers.drawnMinutes(state.kitchen, seed);
        for (int i = 1; i < n; i++) {
            least = Math.min(least, makers.drawnMinutes(state.kitchen, seed + i));
        }
        return least;
    }

    // ---- what may be said, and images ----

    public int said(int k) {
        if (state.sentence.isEmpty()) {
            return NONE;
        }
        int slices = state.sentence.slicesMeant(state);
        if (k == NONE) {
            return Integer.bitCount(slices);
        }
        int ahead = 0;
        for (int s = 0; s < MOST_SLICES; s++) {
            if ((slices >>> s & 1) != 0) {
                if (ahead == k) {
                    return s;
                }
                ahead++;
            }
        }
        return NONE;
    }

    public boolean image(int k) {
        if (k < 0 || k >= IMAGES) {
            return false;
        }
        images[k].copyFrom(state);
        images[k].kept = true;
        return true;
    }

    public boolean restore(int k) {
        if (k < 0 || k >= IMAGES || !images[k].kept) {
            return false;
        }
        state.copyFrom(images[k]);
        history.clear();
        return true;
    }

    /** The tape, its TOKENS one by one, and the FAULT at which reading stopped. */
    private static final class Tape {
        static final int END = 0;
        static final int BAD = 1;
        static final int NAME = 2;
        static final int OWN_WORD = 3;
        static final int NUMBER = 4;
        static final int SIGN = 5;

        static final int PAN = 0;
        static final int REST = 1;
        static final int COLD = 2;
        static final int BURN = 3;
        static final int SLICE = 4;
        static final int GUEST = 5;
        static final int SORT = 6;
        static final int ONCE = 7;
        static final int TOP_WORD = 8;
        static final int UNDER_WORD = 9;
        static final int GOES = 10;
        static final int ENDS = 11;
        static final int NOT = 12;
        static final int DONE = 13;
        static final int AFTER = 14;
        static final int AND = 15;
        static final int OR = 16;

        static final int BEFORE_LETTERS = 'a' - 1;
        private static final int LONGEST_WORD = 6;
        private static final int LONGEST_NUMBER = 3;
        /** A TOKEN for each byte, and the end. */
        private static final int MOST_TOKENS = MOST_FED + 1;
        /** The words that are no NAMES, six signs each, in the order of the numbers above. */
        private static final String OWN_WORDS =
            "pan   rest  cold  burn  slice guest sort  once  top   under goes  ends  not   done  after and   or    ";

        final byte[] bytes = new byte[MOST_FED];
        int fed = 0;
        private final int[] ownWords = new int[OWN_WORDS.length() / LONGEST_WORD];
        private final int[] kinds = new int[MOST_TOKENS];
        private final int[] places = new int[MOST_TOKENS];
        private final int[] values = new int[MOST_TOKENS];
        private int tokens;
        private int passed;
        int kind;
        /** Of a NUMBER what it is, of a SIGN its byte, of a NAME its letters, five bits each. */
        int value;
        /** Which of the words that are no NAMES comes; NONE: another TOKEN does. */
        int ownWord;
        int faultKind;
        int faultPlace;

        Tape() {
            for (int i = 0; i < OWN_WORDS.length(); i++) {
                char sign = OWN_WORDS.charAt(i);
                if (sign != ' ') {
                    int w = i / LONGEST_WORD;
                    ownWords[w] = ownWords[w] * 32 + sign - BEFORE_LETTERS;
                }
            }
        }

        void putNumber(int number) {
            for (int shift = 24; shift >= 0; shift -= 8) {
                if (fed < MOST_FED) {
                    bytes[fed] = (byte) (number >>> shift);
                    fed++;
                }
            }
        }

        /** What is fed is cut into TOKENS, and the tape is empty. */
        void open(int mostBytes) {
            int length = fed;
            int next = 0;
            fed = 0;
            tokens = 0;
            // Behind so many bytes no TOKEN begins; one that begins ahead is read whole.
            for (int step = 0; step < MOST_FED && next < length && next < mostBytes; step++) {
                if (bytes[next] == ' ' || bytes[next] == '\n') {
                    next++;
                } else {
                    next = readToken(next, length);
                }
            }
            if (length > mostBytes) {
                putToken(BAD, mostBytes, 0);
            } else {
                putToken(END, length, 0);
            }
            faultKind = 0;
            faultPlace = 0;
            passed = 0;
            advance();
        }

        /** The TOKEN that begins at a place is put behind the others: the place behind it. */
        private int readToken(int from, int length) {
            int next = from;
            int letters = 0;
            int digits = 0;
            int word = 0;
            int number = 0;
            while (next < length && isLetterOrDigit(bytes[next])) {
                if (bytes[next] >= 'a') {
                    letters++;
                    word = word * 32 + bytes[next] - BEFORE_LETTERS;
                } else {
                    digits++;
                    number = number * 10 + bytes[next] - '0';
                }
                next++;
            }
            if (next == from) {
                putToken(isSignByte(bytes[from]) ? SIGN : BAD, from, bytes[from]);
                return from + 1;
            }
            if (digits == 0 && letters <= LONGEST_WORD) {
                putWord(from, word);
            } else if (letters == 0 && digits <= LONGEST_NUMBER) {
                putToken(NUMBER, from, number);
            } else {
                putToken(BAD, from, 0);
            }
            return next;
        }

        private static boolean isLetterOrDigit(int sign) {
            return sign >= 'a' && sign <= 'z' || sign >= '0' && sign <= '9';
        }

        private static boolean isSignByte(int sign) {
            return sign == ';' || sign == '(' || sign == ')' || sign == '<' || sign == '=' || sign == '>';
        }

        private void putWord(int place, int word) {
            for (int w = 0; w < ownWords.length; w++) {
                if (ownWords[w] == word) {
                    putToken(OWN_WORD, place, w);
                    return;
                }
            }
            putToken(NAME, place, word);
        }

        private void putToken(int tokenKind, int place, int tokenValue) {
            if (tokens < MOST_TOKENS) {
                kinds[tokens] = tokenKind;
                places[tokens] = place;
                values[tokens] = tokenValue;
                tokens++;
            }
        }

        void advance() {
            if (passed < tokens) {
                kind = kinds[passed];
                value = values[passed];
                ownWord = kind == OWN_WORD ? value : NONE;
                passed++;
            }
        }

        boolean isSign(int sign) {
            return kind == SIGN && value == sign;
        }

        /** False, so that a caller can hand the FAULT on in one line. */
        boolean fail(int kindOfFault) {
            faultKind = kindOfFault;
            faultPlace = passed > 0 ? places[passed - 1] : 0;
            return false;
        }

        /** The NUMBER that comes, or NONE behind a FAULT. */
        int takeNumber(int least, int most) {
            if (kind != NUMBER) {
                fail(1);
                return NONE;
            }
            if (value < least || value > most) {
                fail(2);
                return NONE;
            }
            int number = value;
            advance();
            return number;
        }

        boolean takeSign(int sign) {
            if (!isSign(sign)) {
                return fail(1);
            }
            advance();
            return true;
        }

        /** The SLICE whose NAME comes, or NONE behind a FAULT; the NAME is not passed. */
        int findSlice(Kitchen kitchen) {
            if (kind != NAME) {
                fail(1);
                return NONE;
            }
            int s = kitchen.sliceNamed(value);
            if (s == NONE) {
                fail(3);
            }
            return s;
        }
    }

    /** What a KITCHEN's text tells. */
    private static final class Kitchen {
        int lines;
        int places;
        int rest;
        int cold;
        int burns;
        int burnOf;
        int slices;
        int guests;
        int sorts;
        private int onceBits;
        private int toldBits;
        final int[] need = new int[MOST_SIDES];
        final int[] comes = new int[MOST_GUESTS];
        final int[] worth = new int[MOST_GUESTS];
        final int[] sortPlaces = new int[MOST_SORTS];
        final int[] sortCost = new int[MOST_SORTS];
        private final int[] sliceNames = new int[MOST_SLICES];
        private final int[] guestNames = new int[MOST_GUESTS];

        Kitchen() {
            setDefaults();
        }

        private void setDefaults() {
            lines = 0;
            places = 2;
            rest = 0;
            cold = 10;
            burns = 0;
            burnOf = 1;
            slices = 0;
            guests = 0;
            sorts = 0;
            onceBits = 0;
            toldBits = 0;
        }

        void copyFrom(Kitchen other) {
            lines = other.lines;
            places = other.places;
            rest = other.rest;
            cold = other.cold;
            burns = other.burns;
            burnOf = other.burnOf;
            slices = other.slices;
            guests = other.guests;
            sorts = other.sorts;
            onceBits = other.onceBits;
            toldBits = other.toldBits;
            System.arraycopy(other.need, 0, need, 0, MOST_SIDES);
            System.arraycopy(other.comes, 0, comes, 0, MOST_GUESTS);
            System.arraycopy(other.worth, 0, worth, 0, MOST_GUESTS);
            System.arraycopy(other.sortPlaces, 0, sortPlaces, 0, MOST_SORTS);
            System.arraycopy(other.sortCost, 0, sortCost, 0, MOST_SORTS);
            System.arraycopy(other.sliceNames, 0, sliceNames, 0, MOST_SLICES);
            System.arraycopy(other.guestNames, 0, guestNames, 0, MOST_GUESTS);
        }

        boolean hasSlice(int s) {
            return s >= 0 && s < slices;
        }

        boolean isOnce(int s) {
            return (onceBits >>> s & 1) != 0;
        }

        int nameOfSlice(int s) {
            return hasSlice(s) ? sliceNames[s] : 0;
        }

        int sliceNamed(int name) {
            for (int s = 0; s < slices; s++) {
                if (sliceNames[s] == name) {
                    return s;
                }
            }
            return NONE;
        }

        private boolean isGuestsName(int name) {
            for (int g = 0; g < guests; g++) {
                if (guestNames[g] == name) {
                    return true;
                }
            }
            return false;
        }

        int longestSlice() {
            int longest = 0;
            for (int s = 0; s < slices; s++) {
                longest = Math.max(longest, need[2 * s] + need[2 * s + 1]);
            }
            return longest;
        }

        int minutesOfAll(int side) {
            int sum = 0;
            for (int s = 0; s < slices; s++) {
                sum += need[2 * s + side];
            }
            return sum;
        }

        int minutesByPlaces() {
            int all = minutesOfAll(TOP) + minutesOfAll(UNDER);
            return places < 1 ? all : (all + places - 1) / places;
        }

        boolean read(Tape tape) {
            setDefaults();
            // A LINE takes more than one byte, so the tape's length is far above the LINES there can be.
            for (int i = 0; i < MOST_FED && tape.kind != Tape.END; i++) {
                if (!readLine(tape) || !tape.takeSign(';')) {
                    return false;
                }
                lines++;
            }
            return true;
        }

        private boolean readLine(Tape tape) {
            switch (tape.ownWord) {
                case Tape.PAN:
                case Tape.REST:
                case Tape.COLD:
                case Tape.BURN:
                    return readSetting(tape);
                case Tape.SLICE:
                    return readSlice(tape);
                case Tape.GUEST:
                    return readGuest(tape);
                case Tape.SORT:
                    return readSort(tape);
                default:
                    return tape.fail(1);
            }
        }

        private boolean readSetting(Tape tape) {
            int setting = tape.ownWord;
            if ((toldBits >>> setting & 1) != 0) {
                return tape.fail(3);
            }
            toldBits |= 1 << setting;
            tape.advance();
            switch (setting) {
                case Tape.PAN:
                    places = tape.takeNumber(1, MOST_PLACES);
                    return places != NONE;
                case Tape.REST:
                    rest = tape.takeNumber(0, 9);
                    return rest != NONE;
                case Tape.COLD:
                    cold = tape.takeNumber(0, 99);
                    return cold != NONE;
                default:
                    return readBurn(tape);
            }
        }

        /** No M fits a K above 19: that K is at fault; any other K leaves it to M to be above it. */
        private boolean readBurn(Tape tape) {
            burns = tape.takeNumber(0, 19);
            if (burns == NONE) {
                return false;
            }
            burnOf = tape.takeNumber(burns + 1, 20);
            return burnOf != NONE;
        }

        private boolean readSlice(Tape tape) {
            if (slices >= MOST_SLICES) {
                return tape.fail(4);
            }
            tape.advance();
            if (!takeNewName(tape, sliceNames, slices)) {
                return false;
            }
            int top = tape.takeNumber(1, MOST_SIDE_MINUTES);
            int under = top == NONE ? NONE : tape.takeNumber(1, MOST_SIDE_MINUTES);
            if (under == NONE) {
                return false;
            }
            need[2 * slices] = top;
            need[2 * slices + 1] = under;
            if (tape.ownWord == Tape.ONCE) {
                onceBits |= 1 << slices;
                tape.advance();
            }
            slices++;
            return true;
        }

        private boolean readGuest(Tape tape) {
            if (guests >= MOST_GUESTS) {
                return tape.fail(4);
            }
            tape.advance();
            if (!takeNewName(tape, guestNames, guests)) {
                return false;
            }
            comes[guests] = tape.takeNumber(0, MOST_MINUTE_TOLD);
            if (comes[guests] == NONE) {
                return false;
            }
            worth[guests] = tape.takeNumber(0, 99);
            if (worth[guests] == NONE) {
                return false;
            }
            guests++;
            return true;
        }

        private boolean readSort(Tape tape) {
            if (sorts >= MOST_SORTS) {
                return tape.fail(4);
            }
            tape.advance();
            sortPlaces[sorts] = tape.takeNumber(1, 9);
            if (sortPlaces[sorts] == NONE) {
                return false;
            }
            sortCost[sorts] = tape.takeNumber(1, 99);
            if (sortCost[sorts] == NONE) {
                return false;
            }
            sorts++;
            return true;
        }

        private boolean takeNewName(Tape tape, int[] names, int at) {
            if (tape.kind != Tape.NAME) {
                return tape.fail(1);
            }
            int name = tape.value;
            if (sliceNamed(name) != NONE || isGuestsName(name)) {
                return tape.fail(3);
            }
            if (at < names.length) {
                names[at] = name;
            }
            tape.advance();
            return true;
        }
    }

    /** A row of GOES; each is one int, so that keeping a PLAN is one short copy. */
    private static final class Plan {
        private static final int PLACE_SHIFT = 4;
        private static final int MINUTES_SHIFT = 6;
        private static final int BEGIN_SHIFT = 11;

        private final int[] goes = new int[MOST_GOES];
        int size = 0;

        void clear() {
            size = 0;
        }

        void copyFrom(Plan other) {
            size = other.size;
            System.arraycopy(other.goes, 0, goes, 0, size);
        }

        boolean has(int k) {
            return k >= 0 && k < size;
        }

        private int bitsOf(int k) {
            return k >= 0 && k < size ? goes[k] : 0;
        }

        /** 2 times the SLICE, 1 more for UNDER. */
        int sideOf(int k) {
            return bitsOf(k) & 15;
        }

        int placeOf(int k) {
            return bitsOf(k) >>> PLACE_SHIFT & 3;
        }

        int minutesOf(int k) {
            return bitsOf(k) >>> MINUTES_SHIFT & 31;
        }

        int beginOf(int k) {
            return bitsOf(k) >>> BEGIN_SHIFT;
        }

        int endOf(int k) {
            int bits = bitsOf(k);
            return (bits >>> BEGIN_SHIFT) + (bits >>> MINUTES_SHIFT & 31);
        }

        int append(int side, int begin, int place, int n) {
            if (size >= MOST_GOES) {
                return NONE;
            }
            goes[size] = side | place << PLACE_SHIFT | n << MINUTES_SHIFT | begin << BEGIN_SHIFT;
            size++;
            return size - 1;
        }

        void lengthen(int k) {
            if (has(k)) {
                goes[k] += 1 << MINUTES_SHIFT;
            }
        }

        void moveTo(int k, int begin) {
            if (has(k)) {
                goes[k] = goes[k] & (1 << BEGIN_SHIFT) - 1 | begin << BEGIN_SHIFT;
            }
        }

        void takeOut(int k) {
            if (has(k)) {
                System.arraycopy(goes, k + 1, goes, k, size - k - 1);
                size--;
            }
        }

        int lastEnd() {
            int last = 0;
            for (int k = 0; k < size; k++) {
                last = Math.max(last, endOf(k));
            }
            return last;
        }

        /** 0 without GOES. */
        int lastEndOf(int s) {
            int last = 0;
            for (int k = 0; k < size; k++) {
                if (sideOf(k) / 2 == s) {
                    last = Math.max(last, endOf(k));
                }
            }
            return last;
        }

        int goesOf(int s) {
            int found = 0;
            for (int k = 0; k < size; k++) {
                if (sideOf(k) / 2 == s) {
                    found++;
                }
            }
            return found;
        }

        int minutesOn(int side) {
            int sum = 0;
            for (int k = 0; k < size; k++) {
                if (sideOf(k) == side) {
                    sum += minutesOf(k);
                }
            }
            return sum;
        }

        int slicesIn(int minute) {
            int slices = 0;
            for (int k = 0; k < size; k++) {
                if (beginOf(k) <= minute && minute < endOf(k)) {
                    slices |= 1 << sideOf(k) / 2;
                }
            }
            return slices;
        }

        boolean read(Tape tape, Kitchen kitchen) {
            clear();
            for (int i = 0; i <= MOST_LINES && tape.kind != Tape.END; i++) {
                if (!readLine(tape, kitchen) || !tape.takeSign(';')) {
                    return false;
                }
            }
            return true;
        }

        private boolean readLine(Tape tape, Kitchen kitchen) {
            int s = tape.findSlice(kitchen);
            if (s == NONE) {
                return false;
            }
            if (size >= MOST_LINES) {
                return tape.fail(4);
            }
            tape.advance();
            if (tape.ownWord != Tape.TOP_WORD && tape.ownWord != Tape.UNDER_WORD) {
                return tape.fail(1);
            }
            int side = tape.ownWord == Tape.TOP_WORD ? TOP : UNDER;
            tape.advance();
            int begin = tape.takeNumber(0, MOST_MINUTE_TOLD);
            int place = begin == NONE ? NONE : tape.takeNumber(0, kitchen.places - 1);
            int n = place == NONE ? NONE : tape.takeNumber(1, MOST_SIDE_MINUTES);
            return n != NONE && append(2 * s + side, begin, place, n) != NONE;
        }
    }

    /** PLANS that can come back; the oldest makes way for a ninth. */
    private static final class History {
        private static final int MOST_KEPT = 8;

        private final Plan[] kept = new Plan[MOST_KEPT];
        private int oldest = 0;
        int size = 0;

        History() {
            for (int i = 0; i < MOST_KEPT; i++) {
                kept[i] = new Plan();
            }
        }

        void clear() {
            size = 0;
        }

        void keep(Plan plan) {
            kept[(oldest + size) % MOST_KEPT].copyFrom(plan);
            if (size < MOST_KEPT) {
                size++;
            } else {
                oldest = (oldest + 1) % MOST_KEPT;
            }
        }

        void giveBack(Plan plan) {
            if (size > 0) {
                size--;
                plan.copyFrom(kept[(oldest + size) % MOST_KEPT]);
            }
        }
    }

    /** What an image keeps: KITCHEN, PLAN and SENTENCE. */
    private static final class State {
        final Kitchen kitchen = new Kitchen();
        final Plan plan = new Plan();
        final Sentence sentence = new Sentence();
        boolean kept = false;

        void copyFrom(State other) {
            kitchen.copyFrom(other.kitchen);
            plan.copyFrom(other.plan);
            sentence.copyFrom(other.sentence);
        }

        int lacking(int side) {
            return side < 0 || side >= MOST_SIDES ? 0 : kitchen.need[side] - plan.minutesOn(side);
        }

        int doneSlices() {
            int bits = 0;
            for (int s = 0; s < kitchen.slices; s++) {
                if (lacking(2 * s) <= 0 && lacking(2 * s + 1) <= 0) {
                    bits |= 1 << s;
                }
            }
            return bits;
        }
    }

    /** A SENTENCE as steps behind their parts (what an 'and' joins stands ahead of it), each giving SLICES as bits. */
    private static final class Sentence {
        private static final int MOST_ONES = 20;
        private static final int DEEPEST = 8;
        private static final int MOST_STEPS = 40;

        private final int[] steps = new int[MOST_STEPS];
        private final int[] signs = new int[MOST_STEPS];
        private final int[] numbers = new int[MOST_STEPS];
        private final int[] found = new int[MOST_STEPS];
        private int size = 0;
        int ones = 0;

        void clear() {
            size = 0;
            ones = 0;
        }

        boolean isEmpty() {
            return size == 0;
        }

        void copyFrom(Sentence other) {
            size = other.size;
            ones = other.ones;
            System.arraycopy(other.steps, 0, steps, 0, size);
            System.arraycopy(other.signs, 0, signs, 0, size);
            System.arraycopy(other.numbers, 0, numbers, 0, size);
        }

        boolean read(Tape tape, Kitchen kitchen) {
            clear();
            if (!readCond(tape, kitchen, 1)) {
                return false;
            }
            return tape.kind == Tape.END || tape.fail(1);
        }

        private boolean readCond(Tape tape, Kitchen kitchen, int depth) {
            if (!readAll(tape, kitchen, depth)) {
                return false;
            }
            for (int i = 0; i < MOST_ONES && tape.ownWord == Tape.OR; i++) {
                tape.advance();
                if (!readAll(tape, kitchen, depth)) {
                    return false;
                }
                putStep(Tape.OR, 0, 0);
            }
            return true;
        }

        private boolean readAll(Tape tape, Kitchen kitchen, int depth) {
            if (!readOne(tape, kitchen, depth)) {
                return false;
            }
            for (int i = 0; i < MOST_ONES && tape.ownWord == Tape.AND; i++) {
                tape.advance();
                if (!readOne(tape, kitchen, depth)) {
                    return false;
                }
                putStep(Tape.AND, 0, 0);
            }
            return true;
        }

        private boolean readOne(Tape tape, Kitchen kitchen, int depth) {
            boolean bracket = tape.isSign('(');
            int word = tape.ownWord;
            if (!bracket && (word < Tape.ONCE || word > Tape.AFTER)) {
                return tape.fail(1);
            }
            if (ones >= MOST_ONES || depth > DEEPEST) {
                return tape.fail(4);
            }
            ones++;
            tape.advance();
            if (bracket) {
                return readCond(tape, kitchen, depth + 1) && tape.takeSign(')');
            }
            switch (word) {
                case Tape.NOT:
                    if (!readOne(tape, kitchen, depth + 1)) {
                        return false;
                    }
                    putStep(word, 0, 0);
                    return true;
                case Tape.ONCE:
                case Tape.DONE:
                    putStep(word, 0, 0);
                    return true;
                case Tape.AFTER:
                    return readAfter(tape, kitchen);
                default:
                    return readMeasure(tape, word);
            }
        }

        private boolean readAfter(Tape tape, Kitchen kitchen) {
            int s = tape.findSlice(kitchen);
            if (s == NONE) {
                return false;
            }
            putStep(Tape.AFTER, 0, s);
            tape.advance();
            return true;
        }

        private boolean readMeasure(Tape tape, int word) {
            int sign = tape.value;
            if (!tape.isSign('<') && !tape.isSign('=') && !tape.isSign('>')) {
                return tape.fail(1);
            }
            tape.advance();
            int number = tape.takeNumber(0, 999);
            if (number == NONE) {
                return false;
            }
            putStep(word, sign, number);
            return true;
        }

        private void putStep(int step, int sign, int number) {
            if (size < MOST_STEPS) {
                steps[size] = step;
                signs[size] = sign;
                numbers[size] = number;
                size++;
            }
        }

        int slicesMeant(State state) {
            int all = (1 << state.kitchen.slices) - 1;
            int depth = 0;
            for (int i = 0; i < size; i++) {
                int step = steps[i];
                if (step == Tape.NOT && depth >= 1) {
                    found[depth - 1] = all & ~found[depth - 1];
                } else if (step == Tape.AND && depth >= 2) {
                    depth--;
                    found[depth - 1] &= found[depth];
                } else if (step == Tape.OR && depth >= 2) {
                    depth--;
                    found[depth - 1] |= found[depth];
                } else if (depth < MOST_STEPS) {
                    found[depth] = slicesOfStep(i, state);
                    depth++;
                }
            }
            return depth == 0 ? 0 : found[0];
        }

        private int slicesOfStep(int i, State state) {
            if (steps[i] == Tape.DONE) {
                return state.doneSlices();
            }
            int slices = 0;
            for (int s = 0; s < state.kitchen.slices; s++) {
                if (holds(i, s, state)) {
                    slices |= 1 << s;
                }
            }
            return slices;
        }

        private boolean holds(int i, int s, State state) {
            switch (steps[i]) {
                case Tape.ONCE:
                    return state.kitchen.isOnce(s);
                case Tape.AFTER:
                    int other = state.plan.lastEndOf(numbers[i]);
                    return other > 0 && state.plan.lastEndOf(s) > other;
                case Tape.TOP_WORD:
                    return compares(state.kitchen.need[2 * s], i);
                case Tape.UNDER_WORD:
                    return compares(state.kitchen.need[2 * s + 1], i);
                case Tape.GOES:
                    return compares(state.plan.goesOf(s), i);
                default:
                    return compares(state.plan.lastEndOf(s), i);
            }
        }

        private boolean compares(int measure, int i) {
            switch (signs[i]) {
                case '<': return measure < numbers[i];
                case '=': return measure == numbers[i];
                default: return measure > numbers[i];
            }
        }
    }

    /** Minute by minute which PLACES are taken and which sides are on, by the GOES put on it so far. */
    private static final class Board {
        /** Of a minute: a bit for each PLACE, above them one for each side. */
        private final int[] marks = new int[MINUTES];
        /** Of a side: minutes it has by the GOES put on so far. */
        private final int[] had = new int[MOST_SIDES];

        void clear() {
            Arrays.fill(marks, 0);
            Arrays.fill(had, 0);
        }

        private static int placeMark(int place) {
            return 1 << place;
        }

        private static int sideMark(int side) {
            return 1 << MOST_PLACES + side;
        }

        void put(Plan plan, int k) {
            int side = plan.sideOf(k);
            int bits = placeMark(plan.placeOf(k)) | sideMark(side);
            for (int t = plan.beginOf(k); t < plan.endOf(k) && t < MINUTES; t++) {
                marks[t] |= bits;
            }
            had[side] += plan.minutesOf(k);
        }

        private boolean isMarked(int from, int behind, int bits) {
            for (int t = Math.max(from, 0); t < behind && t < MINUTES; t++) {
                if ((marks[t] & bits) != 0) {
                    return true;
                }
            }
            return false;
        }

        int kindOfWrong(Kitchen kitchen, Plan plan, int k) {
            int side = plan.sideOf(k);
            int begin = plan.beginOf(k);
            int end = plan.endOf(k);
            int other = sideMark(side ^ 1);
            if (isMarked(begin, end, placeMark(plan.placeOf(k)))) {
                return 1;
            }
            if (isMarked(begin, end, sideMark(side) | other)) {
                return 2;
            }
            if (hasTooMany(kitchen, plan, k)) {
                return 3;
            }
            if (isOnAgain(kitchen, side)) {
                return 4;
            }
            boolean tooSoon = isMarked(begin - kitchen.rest, begin, other) || isMarked(end, end + kitchen.rest, other);
            return tooSoon ? 5 : 0;
        }

        private boolean hasTooMany(Kitchen kitchen, Plan plan, int k) {
            int side = plan.sideOf(k);
            return had[side] + plan.minutesOf(k) > kitchen.need[side];
        }

        private boolean isOnAgain(Kitchen kitchen, int side) {
            return kitchen.isOnce(side / 2) && had[side] > 0;
        }

        /** The first minute in which GO k would not be WRONG; its own, if that is not ahead of its own. */
        int firstBegin(Kitchen kitchen, Plan plan, int k) {
            int own = plan.beginOf(k);
            int side = plan.sideOf(k);
            if (hasTooMany(kitchen, plan, k) || isOnAgain(kitchen, side)) {
                return own;
            }
            int n = plan.minutesOf(k);
            int other = sideMark(side ^ 1);
            int taken = placeMark(plan.placeOf(k)) | sideMark(side);
            int begin = 0;
            for (int t = 0; t < begin + n + kitchen.rest && begin < own && t < MINUTES; t++) {
                if ((marks[t] & other) != 0) {
                    begin = Math.max(begin, t + 1 + kitchen.rest);
                } else if (t >= begin && t < begin + n && (marks[t] & taken) != 0) {
                    begin = t + 1;
                }
            }
            return Math.min(begin, own);
        }

        int freeMinutes(int place, int behind) {
            int free = 0;
            for (int t = 0; t < behind && t < MINUTES; t++) {
                if ((marks[t] & placeMark(place)) == 0) {
                    free++;
                }
            }
            return free;
        }
    }

    /** ONE: all orders of the sides in turn, less those that can't be the first of the shortest. */
    private static final class Shortest {
        private static final int MOST_HERE = 4;
        private static final int SIDES_HERE = 8;
        /** Above all minutes and rests of four SLICES. */
        private static final int HORIZON = 256;

        private final int[] busy = new int[HORIZON];
        private final int[] begins = new int[SIDES_HERE];
        private final int[] order = new int[SIDES_HERE];
        private final int[] bestBegins = new int[SIDES_HERE];
        private final int[] bestOrder = new int[SIDES_HERE];
        /** Of each depth and side: where the side would begin there. */
        private final int[] tried = new int[SIDES_HERE * SIDES_HERE];
        private final int[] freeAt = new int[MOST_PLACES];
        private final int[] need = new int[SIDES_HERE];
        private int sides;
        private int places;
        private int rest;
        private int leastEnds;
        private int bestEnds;

        int make(Kitchen kitchen, Plan plan) {
            if (kitchen.slices < 1 || kitchen.slices > MOST_HERE) {
                return NONE;
            }
            sides = 2 * kitchen.slices;
            places = kitchen.places;
            rest = kitchen.rest;
            System.arraycopy(kitchen.need, 0, need, 0, sides);
            Arrays.fill(busy, 0);
            Arrays.fill(begins, NONE);
            leastEnds = Math.max(kitchen.longestSlice() + rest, kitchen.minutesByPlaces());
            bestEnds = HORIZON;
            search(0, 0);
            fill(plan);
            return bestEnds;
        }

        private void search(int depth, int ends) {
            if (depth >= sides) {
                bestEnds = ends;
                System.arraycopy(order, 0, bestOrder, 0, sides);
                System.arraycopy(begins, 0, bestBegins, 0, sides);
                return;
            }
            tryAll(depth);
            for (int side = 0; side < sides; side++) {
                if (begins[side] == NONE && !hasLesserTwin(side) && !couldChange(depth, side)) {
                    if (bestEnds <= leastEnds || ends >= bestEnds || isTooLate(depth)) {
                        return;
                    }
                    int begin = tried[depth * SIDES_HERE + side];
                    order[depth] = side;
                    begins[side] = begin;
                    occupy(begin, need[side], 1);
                    search(depth + 1, Math.max(ends, begin + need[side]));
                    occupy(begin, need[side], -1);
                    begins[side] = NONE;
                }
            }
        }

        /** Only the side set last can move where another would begin, and never to an earlier minute. */
        private void tryAll(int depth) {
            int row = depth * SIDES_HERE;
            for (int side = 0; side < sides; side++) {
                if (begins[side] != NONE) {
                    tried[row + side] = NONE;
                } else if (depth == 0) {
                    tried[row + side] = 0;
                } else {
                    int begin = tried[row - SIDES_HERE + side];
                    tried[row + side] = isInTheWay(order[depth - 1], side, begin) ? earliest(side, begin) : begin;
                }
            }
        }

        private boolean isInTheWay(int set, int side, int begin) {
            return set == (side ^ 1) || begins[set] < begin + need[side] && begin < begins[set] + need[set];
        }

        /** A side never begins earlier by others set ahead of it: what ends too late here does so in every order from here on. */
        private boolean isTooLate(int depth) {
            int row = depth * SIDES_HERE;
            for (int top = 0; top + 1 < sides; top += 2) {
                int under = top + 1;
                boolean topOpen = begins[top] == NONE;
                boolean underOpen = begins[under] == NONE;
                if (topOpen && tried[row + top] + need[top] >= bestEnds
                    || underOpen && tried[row + under] + need[under] >= bestEnds) {
                    return true;
                }
                int first = Math.min(tried[row + top], tried[row + under]);
                if (topOpen && underOpen && first + need[top] + rest + need[under] >= bestEnds) {
                    return true;
                }
            }
            return false;
        }

        /** With a side or SLICE alike ahead of it, both untouched, the order with the two changed is lesser and ENDS alike. */
        private boolean hasLesserTwin(int side) {
            if (side % 2 == UNDER && begins[side - 1] == NONE && need[side - 1] == need[side]) {
                return true;
            }
            int top = side - side % 2;
            if (begins[top] != NONE || begins[top + 1] != NONE) {
                return false;
            }
            for (int ahead = 0; ahead < top; ahead += 2) {
                if (begins[ahead] == NONE && begins[ahead + 1] == NONE
                    && need[ahead] == need[top] && need[ahead + 1] == need[top + 1]) {
                    return true;
                }
            }
            return false;
        }

        /** If a side lesser than the one just set begins where it would have ahead of that, the two can change: lesser, and alike. */
        private boolean couldChange(int depth, int side) {
            if (depth < 1 || side >= order[depth - 1]) {
                return false;
            }
            int here = depth * SIDES_HERE + side;
            return tried[here] == tried[here - SIDES_HERE];
        }

        private void occupy(int begin, int n, int by) {
            for (int t = begin; t < begin + n && t < HORIZON; t++) {
                busy[t] += by;
            }
        }

        private int earliest(int side, int from) {
            int n = need[side];
            int begin = firstRoom(from, n);
            int other = side ^ 1;
            if (begins[other] == NONE) {
                return begin;
            }
            int clear = begins[other] + need[other] + rest;
            boolean clash = begin < clear && begin + n + rest > begins[other];
            return clash ? firstRoom(clear, n) : begin;
        }

        private int firstRoom(int from, int n) {
            int begin = from;
            for (int t = from; t < begin + n && t < HORIZON; t++) {
                if (busy[t] >= places) {
                    begin = t + 1;
                }
            }
            return begin;
        }

        private void fill(Plan plan) {
            plan.clear();
            Arrays.fill(freeAt, 0);
            for (int minute = 0; minute < bestEnds; minute++) {
                for (int i = 0; i < sides; i++) {
                    int side = bestOrder[i];
                    if (bestBegins[side] == minute) {
                        int place = leastFree(minute);
                        freeAt[place] = minute + need[side];
                        plan.append(side, minute, place, need[side]);
                    }
                }
            }
        }

        private int leastFree(int minute) {
            for (int place = 0; place < places; place++) {
                if (freeAt[place] <= minute) {
                    return place;
                }
            }
            return 0;
        }
    }

    /** SEVERAL, MASTERS, COOKS and MORNINGS: each goes from minute to minute and never back. */
    private static final class Makers {
        private static final int MASTER_PLACES = 2;

        /** Of a side: minutes it still needs. */
        private final int[] left = new int[MOST_SIDES];
        /** Of a PLACE: the side on it in the minute ahead. */
        private final int[] before = new int[MOST_PLACES];
        /** Of a PLACE: the side on it in this minute. */
        private final int[] now = new int[MOST_PLACES];
        /** Of a PLACE: the GO on it last. */
        private final int[] goOn = new int[MOST_PLACES];
        /** Of a SLICE: the minute behind the last one in which it was on. */
        private final int[] offAt = new int[MOST_SLICES];
        /** Of a master's PLACE: the minute from which it is free. */
        private final int[] freeAt = new int[MASTER_PLACES];
        /** SLICES on in this minute, as bits. */
        private int onNow;
        private int allLeft;

        private void begin(Kitchen kitchen) {
            System.arraycopy(kitchen.need, 0, left, 0, MOST_SIDES);
            Arrays.fill(before, NONE);
            Arrays.fill(now, NONE);
            Arrays.fill(offAt, 0);
            Arrays.fill(freeAt, 0);
            allLeft = kitchen.minutesOfAll(TOP) + kitchen.minutesOfAll(UNDER);
        }

        int cutRow(Kitchen kitchen, Plan plan) {
            plan.clear();
            int minutes = Math.max(kitchen.longestSlice(), kitchen.minutesByPlaces());
            int begin = 0;
            int place = 0;
            for (int side = 0; side < 2 * kitchen.slices; side++) {
                int fits = Math.min(kitchen.need[side], minutes - begin);
                if (fits > 0) {
                    plan.append(side, begin, place, fits);
                }
                begin += fits;
                int over = kitchen.need[side] - fits;
                if (begin == minutes) {
                    place++;
                    begin = over;
                    if (over > 0) {
                        plan.append(side, 0, place, over);
                    }
                }
            }
            return minutes;
        }

        void twoMasters(Kitchen kitchen, Plan plan) {
            plan.clear();
            begin(kitchen);
            for (int minute = 0; minute < MINUTES && plan.size < 2 * kitchen.slices; minute++) {
                for (int place = 0; place < MASTER_PLACES; place++) {
                    int s = freeAt[place] <= minute ? masterTakes(kitchen, place, minute) : NONE;
                    if (s != NONE) {
                        int n = left[2 * s + place];
                        plan.append(2 * s + place, minute, place, n);
                        left[2 * s + place] = 0;
                        freeAt[place] = minute + n;
                        offAt[s] = minute + n;
                    }
                }
            }
        }

        private int masterTakes(Kitchen kitchen, int place, int minute) {
            int taken = NONE;
            for (int s = 0; s < kitchen.slices; s++) {
                boolean untouched = left[2 * s] > 0 && left[2 * s + 1] > 0;
                if (untouched && (taken == NONE || left[2 * s + 1 - place] > left[2 * taken + 1 - place])) {
                    taken = s;
                }
            }
            for (int s = 0; s < kitchen.slices && taken == NONE; s++) {
                if (left[2 * s + place] > 0 && offAt[s] <= minute) {
                    taken = s;
                }
            }
            return taken;
        }

        int oneCook(Kitchen kitchen, int rule, Plan plan) {
            plan.clear();
            begin(kitchen);
            int minute = 0;
            while (allLeft > 0 && minute < MINUTES) {
                letStay(kitchen);
                putOnFree(kitchen, rule, minute);
                fry(kitchen, minute, plan);
                minute++;
            }
            return minute;
        }

        private void letStay(Kitchen kitchen) {
            onNow = 0;
            for (int place = 0; place < kitchen.places; place++) {
                int side = before[place];
                boolean stays = side != NONE && left[side] > 0 && kitchen.isOnce(side / 2);
                now[place] = stays ? side : NONE;
                if (stays) {
                    onNow |= 1 << side / 2;
                }
            }
        }

        private void putOnFree(Kitchen kitchen, int rule, int minute) {
            for (int i = 0; i < kitchen.places; i++) {
                int s = leastFree(kitchen) == NONE ? NONE : cookTakes(kitchen, rule, minute);
                if (s == NONE) {
                    return;
                }
                int side = sideToFry(kitchen, s);
                now[placeFor(kitchen, side)] = side;
                onNow |= 1 << s;
            }
        }

        private int leastFree(Kitchen kitchen) {
            for (int place = 0; place < kitchen.places; place++) {
                if (now[place] == NONE) {
                    return place;
                }
            }
            return NONE;
        }

        private int cookTakes(Kitchen kitchen, int rule, int minute) {
            int taken = NONE;
            int mostLiked = NONE;
            for (int s = 0; s < kitchen.slices; s++) {
                if ((onNow >>> s & 1) == 0 && mayGoOn(kitchen, s, minute)) {
                    int liked = liking(rule, s);
                    if (liked > mostLiked) {
                        mostLiked = liked;
                        taken = s;
                    }
                }
            }
            return taken;
        }

        private boolean mayGoOn(Kitchen kitchen, int s, int minute) {
            if (left[2 * s] == 0 && left[2 * s + 1] == 0) {
                return false;
            }
            // A side is done before the other one begins: between them, and nowhere else, the SLICE rests.
            boolean between = left[2 * s] == 0 && left[2 * s + 1] == kitchen.need[2 * s + 1];
            return !between || minute >= offAt[s] + kitchen.rest;
        }

        private int liking(int rule, int s) {
            switch (rule) {
                case 1: return left[2 * s] + left[2 * s + 1];
                case 2: return left[2 * s] == 0 || left[2 * s + 1] == 0 ? 1 : 0;
                default: return 0;
            }
        }

        private int sideToFry(Kitchen kitchen, int s) {
            for (int side = 2 * s; side <= 2 * s + 1; side++) {
                if (left[side] > 0 && left[side] < kitchen.need[side]) {
                    return side;
                }
            }
            return left[2 * s] > 0 ? 2 * s : 2 * s + 1;
        }

        private int placeFor(Kitchen kitchen, int side) {
            for (int place = 0; place < kitchen.places; place++) {
                if (before[place] == side && now[place] == NONE) {
                    return place;
                }
            }
            return Math.max(leastFree(kitchen), 0);
        }

        private void fry(Kitchen kitchen, int minute, Plan plan) {
            for (int place = 0; place < kitchen.places; place++) {
                int side = now[place];
                if (side != NONE) {
                    if (before[place] == side) {
                        plan.lengthen(goOn[place]);
                    } else {
                        goOn[place] = plan.append(side, minute, place, 1);
                    }
                    left[side]--;
                    allLeft--;
                    offAt[side / 2] = minute + 1;
                }
                before[place] = side;
            }
        }

        int drawnMinutes(Kitchen kitchen, int seed) {
            begin(kitchen);
            int x = seed;
            int minute = 0;
            while (allLeft > 0 && minute < MINUTES) {
                onNow = 0;
                int open = slicesToDraw(kitchen);
                for (int place = 0; place < kitchen.places && open > 0; place++) {
                    x = nextDraw(x);
                    int s = drawnSlice(kitchen, (x >>> 8) % open);
                    int side = left[2 * s] > 0 ? 2 * s : 2 * s + 1;
                    if (left[2 * s] > 0 && left[2 * s + 1] > 0) {
                        x = nextDraw(x);
                        side += (x >>> 8) % 2;
                    }
                    onNow |= 1 << s;
                    open--;
                    left[side]--;
                    allLeft--;
                }
                minute++;
            }
            return minute;
        }

        private static int nextDraw(int x) {
            return x * 1103515245 + 12345;
        }

        private boolean canBeDrawn(int s) {
            return (onNow >>> s & 1) == 0 && left[2 * s] + left[2 * s + 1] > 0;
        }

        private int slicesToDraw(Kitchen kitchen) {
            int open = 0;
            for (int s = 0; s < kitchen.slices; s++) {
                if (canBeDrawn(s)) {
                    open++;
                }
            }
            return open;
        }

        private int drawnSlice(Kitchen kitchen, int draw) {
            int ahead = 0;
            for (int s = 0; s < kitchen.slices; s++) {
                if (canBeDrawn(s)) {
                    if (ahead == draw) {
                        return s;
                    }
                    ahead++;
                }
            }
            return 0;
        }
    }

    /** SERVED: from the last end to the first, the most WORTH that can still come when a set of GUESTS is served already. */
    private static final class Servings {
        private static final int SETS = 256;
        private static final int TOO_MANY = -1000000;
        private static final int MOST_ROUNDS = MOST_MINUTE_TOLD + MOST_GUESTS + 1;
        private static final int MOST_ENDS = 2 * MOST_GUESTS * MOST_GUESTS;

        /** Of a round: GUESTS that may be served at its end. */
        private final int[] mayBe = new int[MOST_ROUNDS];
        /** The rounds at whose ends some may be served. */
        private final int[] rounds = new int[MOST_ENDS];
        /** Of a set of GUESTS: their WORTH at the end looked at; TOO_MANY for the PLACES. */
        private final int[] gain = new int[SETS];
        private final int[] most = new int[(MOST_ENDS + 1) * SETS];
        final int[] minuteOf = new int[MOST_GUESTS];
        int guests = 0;
        private int ends;

        int find(Kitchen kitchen, int minutes) {
            guests = kitchen.guests;
            collectEnds(kitchen, minutes);
            int sets = 1 << guests;
            for (int set = 0; set < sets; set++) {
                most[ends * SETS + set] = 0;
            }
            for (int e = ends - 1; e >= 0; e--) {
                weigh(kitchen, rounds[e] * minutes);
                for (int set = 0; set < sets; set++) {
                    most[e * SETS + set] = mostFrom(e, set);
                }
            }
            trace(kitchen, minutes);
            return most[0];
        }

        /**
         * The other GUESTS can fill so many ends and no more; one end more than that has a PLACE free for a GUEST.
         * So he is never served ahead of that many last ends up to COMES: a later one is worth as much and the lesser
         * in bits; and never behind that many first ends after COMES: an earlier one is worth more.
         */
        private void collectEnds(Kitchen kitchen, int minutes) {
            Arrays.fill(mayBe, 0);
            int enough = kitchen.places < 1 ? guests : (guests - 1) / kitchen.places + 1;
            for (int g = 0; g < guests; g++) {
                int last = minutes < 1 ? 0 : kitchen.comes[g] / minutes;
                int from = Math.max(last - enough + 1, 1);
                for (int round = from; round <= last + enough && round < MOST_ROUNDS; round++) {
                    if (worthAt(kitchen, g, round * minutes) > 0) {
                        mayBe[round] |= 1 << g;
                    }
                }
            }
            ends = 0;
            for (int round = 1; round < MOST_ROUNDS; round++) {
                if (mayBe[round] != 0 && ends < MOST_ENDS) {
                    rounds[ends] = round;
                    ends++;
                }
            }
        }

        private static int worthAt(Kitchen kitchen, int g, int minute) {
            int late = minute - kitchen.comes[g];
            if (-late > kitchen.cold) {
                return 0;
            }
            return Math.max(0, kitchen.worth[g] - Math.max(0, late));
        }

        private void weigh(Kitchen kitchen, int minute) {
            gain[0] = 0;
            for (int g = 0; g < guests; g++) {
                int worth = worthAt(kitchen, g, minute);
                for (int set = 0; set < 1 << g; set++) {
                    boolean fits = Integer.bitCount(set) < kitchen.places;
                    gain[set | 1 << g] = fits ? gain[set] + worth : TOO_MANY;
                }
            }
        }

        private int mostFrom(int e, int set) {
            int next = (e + 1) * SETS;
            int open = mayBe[rounds[e]] & ~set;
            int found = most[next + set];
            // From all that are open down to none, each set among them once.
            for (int now = open; now > 0; now = now - 1 & open) {
                found = Math.max(found, gain[now] + most[next + (set | now)]);
            }
            return found;
        }

        private void trace(Kitchen kitchen, int minutes) {
            Arrays.fill(minuteOf, NONE);
            int set = 0;
            for (int e = 0; e < ends; e++) {
                int minute = rounds[e] * minutes;
                weigh(kitchen, minute);
                int now = leastAsGood(e, set);
                for (int g = 0; g < guests; g++) {
                    if ((now >>> g & 1) != 0) {
                        minuteOf[g] = minute;
                    }
                }
                set |= now;
            }
        }

        private int leastAsGood(int e, int set) {
            int next = (e + 1) * SETS;
            int open = mayBe[rounds[e]] & ~set;
            int due = most[e * SETS + set];
            for (int now = 0; now < SETS; now++) {
                if ((now & ~open) == 0 && gain[now] + most[next + (set | now)] == due) {
                    return now;
                }
            }
            return 0;
        }
    }

    /** HOTEL: the cheapest pans that have so many PLACES together. */
    private static final class Hotel {
        static final int MOST_WANTED = 200;
        private static final int ROW = MOST_WANTED + 1;
        private static final int TOO_DEAR = 1000000;

        /** Of a SORT and PLACES still wanted: the least COST with that SORT and those behind it. */
        private final int[] costs = new int[(MOST_SORTS + 1) * ROW];
        final int[] bought = new int[MOST_SORTS];
        int sorts = 0;

        int buy(Kitchen kitchen, int wanted) {
            if (wanted < 1 || wanted > MOST_WANTED) {
                return NONE;
            }
            sorts = kitchen.sorts;
            costs[sorts * ROW] = 0;
            for (int p = 1; p <= wanted; p++) {
                costs[sorts * ROW + p] = TOO_DEAR;
            }
            for (int k = sorts - 1; k >= 0; k--) {
                costs[k * ROW] = 0;
                for (int p = 1; p <= wanted; p++) {
                    int more = kitchen.sortCost[k] + costs[k * ROW + Math.max(0, p - kitchen.sortPlaces[k])];
                    costs[k * ROW + p] = Math.min(more, costs[(k + 1) * ROW + p]);
                }
            }
            trace(kitchen, wanted);
            return costs[wanted];
        }

        private void trace(Kitchen kitchen, int wanted) {
            int open = wanted;
            for (int k = 0; k < sorts; k++) {
                bought[k] = 0;
                // A pan has a PLACE at least, so there are no more pans than PLACES wanted.
                for (int i = 0; i < wanted && costs[k * ROW + open] != costs[(k + 1) * ROW + open]; i++) {
                    bought[k]++;
                    open = Math.max(0, open - kitchen.sortPlaces[k]);
                }
            }
        }
    }
}
