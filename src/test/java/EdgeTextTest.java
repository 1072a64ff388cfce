/** The edges of "Terms" for texts: TOKENS, bytes, LINES, NUMBERS, NAMES, ONES, and the order of FAULTS. One test a sentence. */
public final class EdgeTextTest {
    private static final String SLICES = "pan 4;slice a 20 20;slice aa 20 20;guest g 1 1;";

    private EdgeTextTest() { }

    public static void main(String[] args) {
        bytesOfAName();
        bytesBetweenTokens();
        bytesBehindANumber();
        bytesOfASign();
        lettersOfAWord();
        digitsOfANumber();
        cutAnywhere();
        bytesOfAKitchen();
        tokensAheadOf600();
        bytesOfAPlan();
        bytesOfASentence();
        settings();
        burns();
        onceEach();
        slices();
        guests();
        sorts();
        names();
        mostParts();
        linesOfAPlan();
        numbersOfAPlan();
        placesOfAPlan();
        namesOfAPlan();
        mostOnes();
        deepestOnes();
        numbersOfASentence();
        namesOfASentence();
        leastOfOneToken();
        firstAlongTheText();
        Check.close("EdgeTextTest");
    }

    // ---- what a text answers: lines at least 0, or a FAULT of a kind at a place ----

    private static void kitchen(String text, int lines) {
        PanSlices x = new PanSlices();
        Check.due("kitchen " + text, Check.kitchen(x, text), lines);
        Check.due("fault of kitchen " + text, x.fault(), 0);
    }

    private static void kitchenFault(String text, int place, int kind) {
        PanSlices x = new PanSlices();
        Check.due("kitchen " + text, Check.kitchen(x, text), -1 - place);
        Check.due("fault of kitchen " + text, x.fault(), kind);
    }

    private static void plan(String text, int lines) {
        PanSlices x = Check.with(SLICES);
        Check.due("plan " + text, Check.plan(x, text), lines);
        Check.due("fault of plan " + text, x.fault(), 0);
        Check.due("goes of plan " + text, x.count(6), lines);
    }

    private static void planFault(String text, int place, int kind) {
        PanSlices x = Check.with(SLICES);
        Check.due("plan " + text, Check.plan(x, text), -1 - place);
        Check.due("fault of plan " + text, x.fault(), kind);
        Check.due("goes of plan " + text, x.count(6), 0);
    }

    private static void sentence(String text, int ones) {
        PanSlices x = Check.with(SLICES);
        Check.due("sentence " + text, Check.sentence(x, text), ones);
        Check.due("fault of sentence " + text, x.fault(), 0);
        Check.due("said of sentence " + text, x.said(-1) >= 0, true);
    }

    private static void sentenceFault(String text, int place, int kind) {
        PanSlices x = Check.with(SLICES);
        Check.due("sentence " + text, Check.sentence(x, text), -1 - place);
        Check.due("fault of sentence " + text, x.fault(), kind);
        Check.due("said of sentence " + text, x.said(-1), -1);
    }

    private static String blanks(int n) {
        return " ".repeat(n);
    }

    // ---- TOKENS ----

    private static boolean isLetter(char c) {
        return "abcdefghijklmnopqrstuvwxyz".indexOf(c) >= 0;
    }

    private static boolean isDigit(char c) {
        return "0123456789".indexOf(c) >= 0;
    }

    private static boolean isBlank(char c) {
        return c == 32 || c == 10;
    }

    /** "WORDS: small letters": of all bytes only these make a NAME. */
    private static void bytesOfAName() {
        for (char c = 0; c < 256; c++) {
            String text = "slice " + c + " 1 1;";
            if (isLetter(c)) {
                kitchen(text, 1);
            } else {
                kitchenFault(text, isBlank(c) ? 8 : 6, 1);
            }
        }
    }

    /** "with blanks (32, 10) between them": no other byte is one. */
    private static void bytesBetweenTokens() {
        for (char c = 0; c < 256; c++) {
            String text = "pan" + c + "1;";
            if (isBlank(c)) {
                kitchen(text, 1);
            } else {
                kitchenFault(text, isLetter(c) || isDigit(c) ? 0 : 3, 1);
            }
        }
    }

    /** "A WORD, NUMBER goes on as long as small letters and digits do". */
    private static void bytesBehindANumber() {
        for (char c = 0; c < 256; c++) {
            String text = "pan 1" + c;
            if (c == ';') {
                kitchen(text, 1);
            } else if (isDigit(c)) {
                kitchenFault(text, 4, 2);
            } else if (isLetter(c)) {
                kitchenFault(text, 4, 1);
            } else {
                kitchenFault(text, isBlank(c) ? 6 : 5, 1);
            }
        }
    }

    /** "; < = > ( )": of all bytes three can be a SIGN. */
    private static void bytesOfASign() {
        for (char c = 0; c < 256; c++) {
            String text = "top" + c + "1";
            if (c == '<' || c == '=' || c == '>') {
                sentence(text, 1);
            } else if (isLetter(c) || isDigit(c)) {
                sentenceFault(text, 0, 1);
            } else {
                sentenceFault(text, isBlank(c) ? 4 : 3, 1);
            }
        }
        sentence("(once)", 2);
        sentenceFault("[once]", 0, 1);
        kitchenFault("pan 1:", 5, 1);
    }

    /** "WORDS: small letters, 1 to 6". */
    private static void lettersOfAWord() {
        for (int n = 1; n <= 6; n++) {
            kitchen("slice " + "q".repeat(n) + " 1 1;", 1);
        }
        for (int n = 7; n <= 33; n++) {
            kitchenFault("slice " + "q".repeat(n) + " 1 1;", 6, 1);
        }
        // Six letters are all looked at, and none is lost behind them.
        kitchen("slice zzzzzz 1 1;slice zzzzzy 1 1;slice yzzzzz 1 1;slice zzzzz 1 1;", 4);
        kitchenFault("slice zzzzzz 1 1;slice zzzzzz 1 1;", 23, 3);
        kitchenFault("slices a 1 1;", 0, 1);
        kitchenFault("slic a 1 1;", 0, 1);
        planFault("aaaaaaa top 0 0 1;", 0, 1);
        planFault("aaaaaa top 0 0 1;", 0, 3);
        sentenceFault("after aaaaaaa", 6, 1);
        sentenceFault("after aaaaaa", 6, 3);
    }

    /** "NUMBERS: 1 to 3 digits"; one of four is no TOKEN, whatever it says. */
    private static void digitsOfANumber() {
        kitchen("cold 9;", 1);
        kitchen("cold 09;", 1);
        kitchen("cold 009;", 1);
        kitchenFault("cold 0009;", 5, 1);
        kitchenFault("cold ;", 5, 1);
        kitchenFault("cold 999;", 5, 2);
        kitchenFault("cold 1000;", 5, 1);
        kitchenFault("cold 00000000000000000001;", 5, 1);
        kitchenFault("cold 4294967297;", 5, 1);
        plan("a top 000 0 1;", 1);
        planFault("a top 0000 0 1;", 6, 1);
        sentence("ends<000", 1);
        sentenceFault("ends<0000", 5, 1);
    }

    /** "the end: how many bytes there are": a text cut behind any of its bytes. */
    private static void cutAnywhere() {
        String text = "pan 3;rest 2;\ncold 5;burn 1 4;slice a 3 4 once;guest g 5 6; sort 2 3;";
        int lines = 0;
        int tokenBegin = 0;
        boolean lineOpen = false;
        for (int n = 1; n <= text.length(); n++) {
            char last = text.charAt(n - 1);
            char next = n < text.length() ? text.charAt(n) : ' ';
            if (isLetter(last) && (n == 1 || !isLetter(text.charAt(n - 2)))) {
                tokenBegin = n - 1;
            }
            boolean partial = isLetter(last) && isLetter(next);
            lineOpen = last != ';' && (lineOpen || !isBlank(last));
            lines += last == ';' ? 1 : 0;
            String cut = text.substring(0, n);
            if (!lineOpen) {
                kitchen(cut, lines);
            } else {
                kitchenFault(cut, partial ? tokenBegin : n, 1);
            }
        }
        Check.due("lines of the whole", lines, 7);
        plan("a top 0 0 1;", 1);
        for (int n = 1; n < 12; n++) {
            planFault("a top 0 0 1;".substring(0, n), n == 3 || n == 4 ? 2 : n, 1);
        }
        sentenceFault("", 0, 1);
        sentenceFault(blanks(7), 7, 1);
        sentenceFault("not", 3, 1);
        sentenceFault("once or ", 8, 1);
        sentenceFault("once and\n\n", 10, 1);
        sentenceFault("(once ", 6, 1);
        sentenceFault("top ", 4, 1);
        sentenceFault("top <  ", 7, 1);
        sentenceFault("after", 5, 1);
    }

    // ---- how many bytes ----

    /** "A KITCHEN is a text of at most 600 bytes". */
    private static void bytesOfAKitchen() {
        for (int n = 6; n <= 600; n += 99) {
            kitchen(blanks(n - 6) + "pan 1;", 1);
        }
        for (int n : new int[] {598, 599, 600}) {
            kitchen(blanks(n - 6) + "pan 1;", 1);
            kitchen("pan 1;" + blanks(n - 6), 1);
            kitchen(blanks(n), 0);
        }
        for (int n : new int[] {601, 602, 639, 640}) {
            kitchenFault(blanks(n - 6) + "pan 1;", 600, 1);
            kitchenFault("pan 1;" + blanks(n - 6), 600, 1);
            kitchenFault(blanks(n), 600, 1);
        }
    }

    /** "600, if there are more and no FAULT is ahead: TOKENS that begin ahead of it are read whole". */
    private static void tokensAheadOf600() {
        kitchenFault(blanks(599) + "?", 599, 1);
        kitchenFault(blanks(599) + "??", 599, 1);
        kitchenFault(blanks(600) + "?", 600, 1);
        // A NUMBER at 599: what stands at 600 belongs to it.
        kitchen(blanks(593) + "rest 9;", 1);
        kitchenFault(blanks(594) + "rest 9;", 600, 1);
        kitchenFault(blanks(594) + "rest 9 ;", 600, 1);
        kitchenFault(blanks(594) + "rest 09;", 600, 1);
        kitchenFault(blanks(594) + "rest 10;", 599, 2);
        kitchenFault(blanks(594) + "rest 0000;", 599, 1);
        kitchenFault(blanks(594) + "rest 9a;", 599, 1);
        // A NAME at 599.
        kitchenFault("slice b 1 1;" + blanks(581) + "slice b", 599, 3);
        kitchenFault("slice b 1 1;" + blanks(581) + "slice b 1 1;", 599, 3);
        kitchenFault("slice b 1 1;" + blanks(581) + "slice bb 1 1;", 600, 1);
        kitchenFault("slice bb 1 1;" + blanks(580) + "slice bb 1 1;", 599, 3);
        kitchenFault(blanks(593) + "slice top", 599, 1);
        kitchenFault(blanks(593) + "slice bbbbbb", 600, 1);
        kitchenFault(blanks(593) + "slice bbbbbbb", 599, 1);
        // A LINE's first WORD at 599.
        kitchenFault(blanks(599) + "pan 1;", 600, 1);
        kitchenFault(blanks(599) + "pam 1;", 599, 1);
        kitchenFault("pan 1;" + blanks(593) + "pan 1;", 599, 3);
        kitchenFault("sort 1 1;".repeat(5) + blanks(554) + "sort 1 1;", 599, 4);
        kitchenFault("sort 1 1;".repeat(5) + blanks(555) + "sort 1 1;", 600, 1);
    }

    /** "A PLAN is a text of at most 600 bytes". */
    private static void bytesOfAPlan() {
        for (int n : new int[] {12, 598, 599, 600}) {
            plan(blanks(n - 12) + "a top 0 0 1;", 1);
            plan("a top 0 0 1;" + "\n".repeat(n - 12), 1);
        }
        for (int n : new int[] {601, 602, 639, 640}) {
            planFault(blanks(n - 12) + "a top 0 0 1;", 600, 1);
            planFault("a top 0 0 1;" + blanks(n - 12), 600, 1);
            planFault(blanks(n), 600, 1);
        }
        // The last NUMBER at 599.
        planFault(blanks(589) + "a top 0 0 20;", 600, 1);
        planFault(blanks(589) + "a top 0 0 21;", 599, 2);
        planFault(blanks(599) + "aa top 0 0 1;", 600, 1);
        planFault(blanks(599) + "ab top 0 0 1;", 599, 3);
        planFault("a top 0 0 1;".repeat(30) + blanks(239) + "aa top 0 0 1;", 599, 4);
        planFault("a top 0 0 1;".repeat(30) + blanks(240) + "aa top 0 0 1;", 600, 1);
    }

    /** "A SENTENCE is a text of at most 200 bytes". */
    private static void bytesOfASentence() {
        for (int n : new int[] {4, 198, 199, 200}) {
            sentence(blanks(n - 4) + "once", 1);
            sentence("once" + blanks(n - 4), 1);
        }
        for (int n : new int[] {201, 203, 204, 600, 601, 640}) {
            sentenceFault(blanks(n - 4) + "once", 200, 1);
            sentenceFault("once" + blanks(n - 4), 200, 1);
        }
        sentenceFault(blanks(194) + "ends<999", 200, 1);
        sentenceFault(blanks(194) + "ends<9999", 199, 1);
        sentenceFault(blanks(193) + "after aa", 200, 1);
        sentenceFault(blanks(193) + "after ab", 199, 3);
        sentenceFault("once" + " or once".repeat(19) + blanks(40) + "or once", 199, 4);
        sentenceFault("once" + " or once".repeat(19) + blanks(41) + "or once", 200, 1);
        sentenceFault(blanks(199) + "?", 199, 1);
        sentenceFault(blanks(200) + "?", 200, 1);
    }

    // ---- LINES of a KITCHEN ----

    /** A NUMBER from the least to the most may stand between two parts of a KITCHEN; any other is a FAULT 2 at it. */
    private static void range(String ahead, String behind, int least, int most) {
        for (int n = 0; n <= 999; n++) {
            boolean near = n <= least + 1 || n >= most - 1 && n <= most + 2 || n % 111 == 0 || n == 256 || n == 512;
            if (near && n >= least && n <= most) {
                kitchen(ahead + n + behind, 1);
            } else if (near) {
                kitchenFault(ahead + n + behind, ahead.length(), 2);
            }
        }
    }

    /** "PLACES (1 to 4; 2 without)", "N (0 to 9; 0 without)", "N (0 to 99; 10 without)". */
    private static void settings() {
        range("pan ", ";", 1, 4);
        range("rest ", ";", 0, 9);
        range("cold ", ";", 0, 99);
        String[] words = {"pan", "rest", "cold"};
        int[] least = {1, 0, 0};
        int[] most = {4, 9, 99};
        int[] without = {2, 0, 10};
        for (int what = 0; what < 3; what++) {
            Check.due(words[what] + " of a new object", new PanSlices().count(what), without[what]);
            for (int n = least[what]; n <= most[what]; n++) {
                PanSlices x = Check.with(words[what] + " " + n + ";");
                for (int other = 0; other < 3; other++) {
                    Check.due(words[what] + " " + n + ": count " + other, x.count(other), other == what ? n : without[other]);
                }
                Check.due("an empty kitchen", Check.kitchen(x, ""), 0);
                Check.due(words[what] + " without", x.count(what), without[what]);
            }
        }
    }

    /** "'burn' K M (M 1 to 20, K 0 to M less 1; 0 1 without)". */
    private static void burns() {
        for (int k = 0; k <= 22; k++) {
            for (int m = 0; m <= 22; m++) {
                String text = "burn " + k + " " + m + ";slice a 1 1;";
                int placeOfM = 6 + ("" + k).length();
                if (k > 19) {
                    kitchenFault(text, 5, 2);
                } else if (m <= k || m > 20) {
                    kitchenFault(text, placeOfM, 2);
                } else {
                    kitchen(text, 2);
                }
            }
        }
        Check.due("mean without burn", Check.with("slice a 3 4;").mean(0, 0), 7);
        Check.due("mean of burn 0 1", Check.with("burn 0 1;slice a 3 4;").mean(0, 0), 7);
        Check.due("mean of burn 0 20", Check.with("slice a 3 4;burn 0 20;").mean(0, 0), 7);
        PanSlices x = Check.with("burn 19 20;slice a 1 1;");
        Check.due("mean of burn 19 20", x.mean(0, 0), 420);
        Check.kitchen(x, "slice a 1 1;");
        Check.due("burn is not told in the new kitchen", x.mean(0, 0), 2);
    }

    /** "these once each". */
    private static void onceEach() {
        String[] lines = {"pan 1;", "rest 1;", "cold 1;", "burn 1 2;"};
        for (int i = 0; i < 4; i++) {
            for (int j = 0; j < 4; j++) {
                String text = lines[i] + lines[j];
                if (i == j) {
                    kitchenFault(text, lines[i].length(), 3);
                    kitchenFault(lines[i] + "sort 1 1;" + lines[j], lines[i].length() + 9, 3);
                } else {
                    kitchen(text, 2);
                }
            }
        }
        kitchen("rest 1;burn 0 1;cold 9;pan 4;", 4);
        kitchenFault("pan 2;pan", 6, 3);
        kitchenFault("pan 2;pan 9;", 6, 3);
        kitchen("sort 1 1;sort 1 1;", 2);
    }

    /** "minutes of its sides, 1 to 20 each". */
    private static void slices() {
        range("slice a ", " 1;", 1, 20);
        range("slice a 1 ", ";", 1, 20);
        range("slice a 20 ", " once;", 1, 20);
        for (int n = 1; n <= 20; n++) {
            PanSlices x = Check.with("slice a " + n + " " + (21 - n) + ";slice b " + (21 - n) + " " + n + " once;");
            Check.due("top", x.slice(0, 0), n);
            Check.due("under", x.slice(0, 1), 21 - n);
            Check.due("not once", x.slice(0, 2), 0);
            Check.due("top of b", x.slice(1, 0), 21 - n);
            Check.due("under of b", x.slice(1, 1), n);
            Check.due("once", x.slice(1, 2), 1);
        }
        kitchenFault("slice a 1 1 once once;", 17, 1);
        kitchenFault("slice a once 1 1;", 8, 1);
        kitchenFault("slice once a 1 1;", 6, 1);
    }

    /** "COMES WORTH (0 to 240; 0 to 99)". */
    private static void guests() {
        range("guest a ", " 1;", 0, 240);
        range("guest a 1 ", ";", 0, 99);
        for (int n : new int[] {0, 1, 98, 99}) {
            PanSlices x = Check.with("guest a " + (n + 141) + " " + n + ";guest b " + n + " " + (99 - n) + ";");
            Check.due("comes", x.guest(0, 0), n + 141);
            Check.due("worth", x.guest(0, 1), n);
            Check.due("comes of b", x.guest(1, 0), n);
            Check.due("worth of b", x.guest(1, 1), 99 - n);
        }
    }

    /** "'sort' PLACES COST (1 to 9; 1 to 99)". */
    private static void sorts() {
        range("sort ", " 1;", 1, 9);
        range("sort 1 ", ";", 1, 99);
        for (int n : new int[] {1, 2, 8, 9}) {
            PanSlices x = Check.with("sort " + n + " " + (n + 90) + ";sort " + (10 - n) + " " + n + ";");
            Check.due("places", x.sort(0, 0), n);
            Check.due("cost", x.sort(0, 1), n + 90);
            Check.due("places of the second", x.sort(1, 0), 10 - n);
            Check.due("cost of the second", x.sort(1, 1), n);
        }
    }

    /** "NAME: a WORD, none of those told here, in a PLAN or a SENTENCE; told once". */
    private static void names() {
        String[] told = {"pan", "rest", "cold", "burn", "slice", "once", "guest", "sort", "top", "under", "or", "and", "not",
            "done", "after", "goes", "ends"};
        for (String word : told) {
            kitchenFault("slice " + word + " 1 1;", 6, 1);
            kitchenFault("guest " + word + " 1 1;", 6, 1);
            // A letter less, a letter more: these are NAMES.
            kitchen("slice " + word.substring(1) + "q 1 1;guest " + word.substring(0, word.length() - 1) + " 1 1;", 2);
            kitchen("slice " + word + "s 1 1;guest q" + word + " 1 1;", 2);
        }
        String[] both = {"slice", "guest"};
        for (String first : both) {
            for (String second : both) {
                kitchenFault(first + " a 1 1;" + second + " a 1 1;", 18, 3);
                kitchen(first + " a 1 1;" + second + " b 1 1;", 2);
                // All NAMES ahead are looked at, the first and the last.
                kitchenFault(first + " a 1 1;slice b 1 1;guest c 1 1;" + second + " a 1 1;", 42, 3);
                kitchenFault(first + " a 1 1;slice b 1 1;guest c 1 1;" + second + " b 1 1;", 42, 3);
                kitchenFault(first + " a 1 1;slice b 1 1;guest c 1 1;" + second + " c 1 1;", 42, 3);
            }
        }
    }

    private static String many(String word, int n) {
        StringBuilder text = new StringBuilder();
        for (int i = 0; i < n; i++) {
            text.append(word).append(word.equals("sort") ? "" : " " + word.charAt(0) + (char) ('a' + i)).append(" 1 1;");
        }
        return text.toString();
    }

    /** "8 SLICES, 8 GUESTS, 5 SORTS at most"; "4 a ninth SLICE, GUEST, a sixth SORT (at the LINE's first WORD)". */
    private static void mostParts() {
        String[] words = {"slice", "guest", "sort"};
        int[] most = {8, 8, 5};
        for (int i = 0; i < 3; i++) {
            for (int n = 0; n <= most[i]; n++) {
                PanSlices x = Check.with(many(words[i], n));
                for (int j = 0; j < 3; j++) {
                    Check.due(n + " of " + words[i], x.count(3 + j), j == i ? n : 0);
                }
            }
            String full = many(words[i], most[i]);
            kitchenFault(many(words[i], most[i] + 1), full.length(), 4);
            kitchenFault(full + words[i], full.length(), 4);
            kitchenFault(full + words[i] + " ? 0 0", full.length(), 4);
            // A FAULT ahead of the LINE comes first; other LINES may still come.
            kitchenFault(full.substring(0, full.length() - 2) + "100;" + words[i], full.length() - 2, 2);
            for (int j = 0; j < 3; j++) {
                if (j != i) {
                    kitchen(full + many(words[j], most[j]), most[i] + most[j]);
                    kitchenFault(full + many(words[j], 1) + words[i], full.length() + many(words[j], 1).length(), 4);
                }
            }
        }
        String all = many("slice", 8) + many("guest", 8) + many("sort", 5) + "pan 1;rest 1;cold 1;burn 1 2;";
        kitchen(all, 25);
    }

    // ---- LINES of a PLAN ----

    /** "{ LINE ; }, 30 at most"; "4 .. a 31st LINE of a PLAN (at the LINE's first WORD)". */
    private static void linesOfAPlan() {
        String line = "a top 0 0 1;";
        for (int n = 0; n <= 30; n++) {
            plan(line.repeat(n), n);
        }
        plan(line.repeat(30) + blanks(9), 30);
        planFault(line.repeat(31), 360, 4);
        planFault(line.repeat(32), 360, 4);
        planFault(line.repeat(30) + " a", 361, 4);
        planFault(line.repeat(30) + "aa nothing", 360, 4);
        // Of that TOKEN the least: no TOKEN, one that can't come, a NAME not told, of another sort.
        planFault(line.repeat(30) + "?", 360, 1);
        planFault(line.repeat(30) + "7", 360, 1);
        planFault(line.repeat(30) + ";", 360, 1);
        planFault(line.repeat(30) + "top", 360, 1);
        planFault(line.repeat(30) + "b top 0 0 1;", 360, 3);
        planFault(line.repeat(30) + "g top 0 0 1;", 360, 3);
        planFault(line.repeat(29) + "a top 0 0 0;" + line, 358, 2);
    }

    /** "from a MINUTE (0 to 240) on a PLACE (from 0) for N minutes (1 to 20)". */
    private static void numbersOfAPlan() {
        for (int n : new int[] {0, 1, 2, 238, 239, 240, 241, 242, 256, 512, 999}) {
            String text = "a top " + n + " 0 1;";
            if (n <= 240) {
                plan(text, 1);
            } else {
                planFault(text, 6, 2);
            }
        }
        for (int n : new int[] {0, 1, 2, 18, 19, 20, 21, 22, 33, 64, 999}) {
            String text = "a under 7 0 " + n + ";";
            if (n >= 1 && n <= 20) {
                plan(text, 1);
            } else {
                planFault(text, 12, 2);
            }
        }
        PanSlices x = Check.with(SLICES);
        Check.plan(x, "a top 0 0 1;aa under 240 3 20;");
        int[][] due = {{0, 0, 0, 0, 1}, {1, 1, 240, 3, 20}};
        for (int k = 0; k < 2; k++) {
            for (int what = 0; what < 5; what++) {
                Check.due("go " + k + " " + what, x.go(k, what), due[k][what]);
            }
        }
    }

    /** "a PLACE (from 0)": as many as the pan has. */
    private static void placesOfAPlan() {
        for (int places = 1; places <= 4; places++) {
            for (int place : new int[] {0, 1, 2, 3, 4, 5, 16, 999}) {
                PanSlices x = Check.with("pan " + places + ";slice a 1 1;");
                boolean fits = place < places;
                Check.due("place " + place + " of " + places, Check.plan(x, "a top 0 " + place + " 1;"), fits ? 1 : -9);
                Check.due("its fault", x.fault(), fits ? 0 : 2);
                Check.due("its place", x.go(0, 3), fits ? place : -1);
            }
        }
    }

    /** "SLICE ( 'top' | 'under' )"; "3 a NAME .. not told, or of another sort". */
    private static void namesOfAPlan() {
        plan("a top 0 0 1;a under 0 0 1;aa top 0 0 1;", 3);
        planFault("b top 0 0 1;", 0, 3);
        planFault("g top 0 0 1;", 0, 3);
        planFault("a top 0 0 1;b top 0 0 1;", 12, 3);
        planFault("a a 0 0 1;", 2, 1);
        planFault("a g 0 0 1;", 2, 1);
        planFault("a once 0 0 1;", 2, 1);
        planFault("a 0 0 1;", 2, 1);
        planFault("a top top 0 0 1;", 6, 1);
        planFault("a top 0 0 1", 11, 1);
        planFault("a top 0 0 1 1;", 12, 1);
        planFault("a top 0 0;", 9, 1);
        planFault(";", 0, 1);
        PanSlices x = new PanSlices();
        Check.due("a plan without slices", Check.plan(x, "a top 0 0 1;"), -1);
        Check.due("its fault", x.fault(), 3);
        Check.due("an empty plan without slices", Check.plan(x, ""), 0);
    }

    // ---- ONES of a SENTENCE ----

    /** "20 ONES"; "4 a 21st ONE (at its first TOKEN)". */
    private static void mostOnes() {
        for (int n = 1; n <= 20; n++) {
            sentence("once" + " or once".repeat(n - 1), n);
            sentence("done" + " and done".repeat(n - 1), n);
        }
        sentenceFault("once" + " or once".repeat(20), 160, 4);
        sentenceFault("done" + " and done".repeat(20), 180, 4);
        // Each not and each bracket is one of them.
        sentence("not once" + " or not once".repeat(9), 20);
        sentenceFault("not once" + " or not once".repeat(9) + " or not once", 120, 4);
        sentenceFault("once or not once" + " or not once".repeat(9), 16 + 12 * 8 + 8, 4);
        sentence("(once)" + "or(once)".repeat(9), 20);
        sentenceFault("(once)" + "or(once)".repeat(9) + "or(once)", 80, 4);
        sentenceFault("once or(once)" + "or(once)".repeat(9), 13 + 8 * 8 + 3, 4);
        sentence("top<1" + " or ends>1".repeat(18) + " or goes=1", 20);
        // Behind the 20th ONE the text may end, but not go on with what can't come.
        sentenceFault("once" + " or once".repeat(19) + " or", 159, 1);
        sentenceFault("once" + " or once".repeat(19) + " once", 157, 1);
        sentenceFault("once" + " or once".repeat(19) + " or a", 160, 1);
    }

    /** "8 within one another"; "4 .. a ninth within (at its first TOKEN)". */
    private static void deepestOnes() {
        for (int n = 1; n <= 8; n++) {
            sentence("(".repeat(n - 1) + "once" + ")".repeat(n - 1), n);
            sentence("not ".repeat(n - 1) + "once", n);
            sentence("not(".repeat((n - 1) / 2) + "once" + ")".repeat((n - 1) / 2), 1 + (n - 1) / 2 * 2);
        }
        sentenceFault("(".repeat(8) + "once" + ")".repeat(8), 8, 4);
        sentenceFault("(".repeat(9) + "once" + ")".repeat(9), 8, 4);
        sentenceFault("not ".repeat(8) + "once", 32, 4);
        sentenceFault("not ".repeat(9) + "once", 32, 4);
        sentenceFault("not(".repeat(4) + "once" + ")".repeat(4), 16, 4);
        sentenceFault("not ".repeat(8) + "(once)", 32, 4);
        sentenceFault("not ".repeat(8) + "top<1", 32, 4);
        sentenceFault("not ".repeat(8) + "after zz", 32, 4);
        // What can't come at all is a 1 there.
        sentenceFault("not ".repeat(8) + "or", 32, 1);
        sentenceFault("not ".repeat(8), 32, 1);
        // Side by side is not within; what was deep once does not count behind it.
        sentence("(".repeat(7) + "once or done and once" + ")".repeat(7), 10);
        sentence("not ".repeat(7) + "once or " + "not ".repeat(7) + "once", 16);
        sentence("(".repeat(7) + "once" + ")".repeat(7) + "and" + "(".repeat(7) + "once" + ")".repeat(7), 16);
        sentenceFault("once and (" + "(".repeat(7) + "once", 10 + 7, 4);
        sentenceFault("(".repeat(7) + "once or not done", 7 + 8 + 4, 4);
    }

    /** "SIGN NUMBER": every NUMBER is as told. */
    private static void numbersOfASentence() {
        for (String word : new String[] {"top", "under", "goes", "ends"}) {
            for (String sign : new String[] {"<", "=", ">"}) {
                sentence(word + sign + "0", 1);
                sentence(word + sign + "999", 1);
                sentenceFault(word + sign + "1000", word.length() + 1, 1);
                sentenceFault(word + sign + sign + "1", word.length() + 1, 1);
                sentenceFault(word + sign + "a", word.length() + 1, 1);
            }
            sentenceFault(word + " 1", word.length() + 1, 1);
            sentenceFault(word + ";1", word.length(), 1);
            sentenceFault(word, word.length(), 1);
        }
    }

    /** "FAULTS: 1, 3 (no such SLICE)". */
    private static void namesOfASentence() {
        sentence("after a", 1);
        sentence("after aa and after a", 2);
        sentenceFault("after b", 6, 3);
        sentenceFault("after g", 6, 3);
        sentenceFault("after once", 6, 1);
        sentenceFault("after 1", 6, 1);
        sentenceFault("a", 0, 1);
        sentenceFault("pan", 0, 1);
        sentenceFault("once;", 4, 1);
        sentenceFault("once)", 4, 1);
        sentenceFault("()", 1, 1);
        sentenceFault("and", 0, 1);
        sentenceFault("once or and once", 8, 1);
    }

    // ---- which FAULT ----

    /** "of one TOKEN the least". */
    private static void leastOfOneToken() {
        // A 31st LINE by a NAME not told: 3, not 4; a 21st ONE that is also a ninth within: 4 either way.
        planFault("a top 0 0 1;".repeat(30) + "zz", 360, 3);
        sentenceFault("not ".repeat(8) + "?", 32, 1);
        sentenceFault("once" + " or once".repeat(19) + " or ;", 160, 1);
        // A NUMBER of four digits that is also too great: 1, not 2.
        kitchenFault("pan 1000;", 4, 1);
        planFault("a top 1000 0 1;", 6, 1);
        // A NAME told already that is no NAME at all can't be; a told WORD as a NAME: 1, not 3.
        kitchenFault("slice a 1 1;slice slice 1 1;", 18, 1);
    }

    /** "FAULTS, the first along the text". */
    private static void firstAlongTheText() {
        kitchenFault("pan 0;pan 0;?", 4, 2);
        kitchenFault("pan 1;pan 0;?", 6, 3);
        kitchenFault("slice a 21 0;", 8, 2);
        kitchenFault("slice a 1 1;slice a 0 1;", 18, 3);
        kitchenFault("slice a 1 1 pan 7;", 12, 1);
        planFault("b top 241 4 21;", 0, 3);
        planFault("a top 241 4 21;", 6, 2);
        planFault("a top 240 4 21;", 10, 2);
        planFault("a top 240 3 21;", 12, 2);
        sentenceFault("after b and ?", 6, 3);
        sentenceFault("once ? after b", 5, 1);
    }
}
