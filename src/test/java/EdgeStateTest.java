/** The edges of promises 1 to 9, 11 and 43 to 47: the tape, what a KITCHEN has, what may be said, images. One test a sentence. */
public final class EdgeStateTest {
    private static final int MIN = Integer.MIN_VALUE;
    private static final int MAX = Integer.MAX_VALUE;

    private EdgeStateTest() { }

    public static void main(String[] args) {
        newObject();
        twentyBytes();
        mostBytes();
        endOfTheTape();
        bytesBehindTheEnd();
        tapeIsEmptyThen();
        linesThatAreCounted();
        nothingOfTheOldKitchen();
        latestFault();
        slicesThatAreAsked();
        guestsThatAreAsked();
        sortsThatAreAsked();
        latestWhy();
        onesThatAreCounted();
        whichAreSaid();
        saidOfMinutes();
        saidOfGoes();
        saidOfEnds();
        saidOfAfter();
        saidOfDone();
        saidByWords();
        sentenceIsOfThePlanNow();
        imagesThatAreKept();
        restoredParts();
        counts();
        Check.close("EdgeStateTest");
    }

    /** "An empty KITCHEN; an empty tape." */
    private static void newObject() {
        PanSlices x = new PanSlices();
        int[] due = {2, 0, 10, 0, 0, 0, 0, 0};
        for (int what = 0; what < 8; what++) {
            Check.due("count " + what, x.count(what), due[what]);
        }
        Check.due("fault", x.fault(), 0);
        Check.due("why", x.why(), -1);
        Check.due("said", x.said(-1), -1);
        Check.due("undo", x.undo(), -1);
        Check.due("byteAt", x.byteAt(0), -1);
        Check.due("servedAt", x.servedAt(0), -1);
        Check.due("pans", x.pans(0), -1);
        Check.due("restore 0", x.restore(0), false);
        Check.due("restore 1", x.restore(1), false);
        Check.dueText("as with an empty text", Look.at(x), Look.at(Check.with("")));
        // Two objects have nothing in common.
        PanSlices y = new PanSlices();
        Check.kitchen(x, "slice a 1 1;");
        x.image(0);
        Check.due("the other's slices", y.count(3), 0);
        Check.due("the other's image", y.restore(0), false);
    }

    /** feed(): "Twenty bytes come behind the tape, of each number the highest first". */
    private static void twentyBytes() {
        String text = "slice abcde 12 17 ;\n";
        PanSlices x = new PanSlices();
        int[] n = Check.numbers(Check.bytes(text), 0);
        Check.due("feed", x.feed(n[0], n[1], n[2], n[3], n[4]), 20);
        Check.due("kitchen", x.kitchen(), 1);
        Check.due("top", x.slice(0, 0), 12);
        Check.due("under", x.slice(0, 1), 17);
        // A byte above 127, as the highest and as the lowest, is no TOKEN and disturbs none beside it.
        for (int at = 0; at < 4; at++) {
            for (int b = 128; b < 256; b++) {
                x.feed(0x20202020 & ~(255 << 8 * at) | b << 8 * at, 0, 0, 0, 0);
                x.end(4);
                Check.due("byte " + b + " at " + at, x.kitchen(), -1 - (3 - at));
            }
        }
        // Behind what is there, whatever its length.
        for (int length = 0; length <= 40; length++) {
            PanSlices y = new PanSlices();
            Check.feed(y, " ".repeat(length));
            Check.due("bytes behind " + length, y.feed(0x70616e20, 0x333b2020, 0x20202020, 0x20202020, 0x20202020), length + 20);
            Check.due("kitchen behind " + length, y.kitchen(), 1);
            Check.due("places", y.count(0), 3);
        }
    }

    /** feed(): "NONE, and none come, if it would have more than 640". */
    private static void mostBytes() {
        for (int length = 610; length <= 640; length++) {
            PanSlices x = new PanSlices();
            Check.feed(x, "\n".repeat(length));
            Check.due("length", x.count(7), length);
            boolean fits = length + 20 <= 640;
            Check.due("feed at " + length, x.feed(0, 0, 0, 0, 0), fits ? length + 20 : -1);
            Check.due("bytes", x.count(7), fits ? length + 20 : length);
        }
    }

    /** end(): "The tape has its first n bytes alone: true; false, if it has not so many, or n is below 0". */
    private static void endOfTheTape() {
        for (int length : new int[] {0, 1, 19, 20, 21, 639, 640}) {
            for (int n : new int[] {MIN, -2, -1, 0, 1, length - 1, length, length + 1, 640, 641, MAX}) {
                PanSlices x = new PanSlices();
                Check.feed(x, "\n".repeat(length));
                boolean fits = n >= 0 && n <= length;
                Check.due("end " + n + " of " + length, x.end(n), fits);
                Check.due("bytes", x.count(7), fits ? n : length);
            }
        }
        // The first bytes stay, and what was cut off does not come back.
        PanSlices x = new PanSlices();
        Check.feed(x, "pan 1;pan 1;");
        Check.due("end 6", x.end(6), true);
        Check.due("end 12 is too many now", x.end(12), false);
        Check.due("kitchen", x.kitchen(), 1);
        Check.due("tape", x.count(7), 0);
        Check.due("end 1 of an empty tape", x.end(1), false);
        Check.due("end 0 of an empty tape", x.end(0), true);
    }

    /** "The tape has its first n bytes alone": whatever was behind them is nothing to a text, nor to brown(). */
    private static void bytesBehindTheEnd() {
        for (int b = 0; b < 256; b++) {
            PanSlices x = new PanSlices();
            Check.due("kitchen", cut(x, "slice ab 1 1;slice a 2 2;", b, 12).kitchen(), -13);
            Check.due("kitchen", cut(x, "slice ab 1 1;slice a 2 2;", b, 25).kitchen(), 2);
            Check.due("plan", cut(x, "a top 0 0 1;b", b, 12).plan(), 1);
            Check.due("plan", cut(x, "a top 0 0 1", b, 11).plan(), -12);
            Check.due("sentence", cut(x, "top=2", b, 5).sentence(), 1);
            Check.due("of the second", x.said(0), 1);
            Check.due("sentence", cut(x, "after a", b, 7).sentence(), 1);
            Check.due("sentence", cut(x, "", b, 0).sentence(), -1);
            Check.due("brown", cut(x, "\1", b, 1).brown(2, 1), 2);
            Check.due("brown", cut(x, "\1\2\3\0\0", b, 5).brown(10, 4), 10 * 10 * 90);
            Check.due("brown", cut(x, "", b, 0).brown(2, 1), -1);
        }
    }

    /** The tape has this text, then the byte up to its end, and is cut. */
    private static PanSlices cut(PanSlices x, String text, int b, int n) {
        Check.feed(x, text + String.valueOf((char) b).repeat(640 - text.length()));
        Check.due("end", x.end(n), true);
        return x;
    }

    /** "The tape (empty then, here and below)". */
    private static void tapeIsEmptyThen() {
        PanSlices x = Check.with("slice a 1 1;");
        Check.due("behind kitchen", x.count(7), 0);
        Check.plan(x, "a top 0 0 1;");
        Check.due("behind plan", x.count(7), 0);
        Check.sentence(x, "done");
        Check.due("behind sentence", x.count(7), 0);
        Check.plan(x, "?");
        Check.due("behind a plan's FAULT", x.count(7), 0);
        Check.sentence(x, "?");
        Check.due("behind a sentence's FAULT", x.count(7), 0);
        Check.kitchen(x, "?");
        Check.due("behind a kitchen's FAULT", x.count(7), 0);
        Check.feed(x, new byte[] {1});
        x.brown(1, 1);
        Check.due("behind brown", x.count(7), 0);
        Check.feed(x, new byte[] {1});
        x.brown(11, 1);
        Check.due("behind brown that is none", x.count(7), 0);
        // The empty tape is a KITCHEN, a PLAN, and no SENTENCE.
        Check.due("an empty plan", x.plan(), 0);
        Check.due("an empty sentence", x.sentence(), -1);
        Check.due("brown of nothing", x.brown(1, 1), -1);
        Check.due("an empty kitchen", x.kitchen(), 0);
        Check.due("no slices", x.count(3), 0);
    }

    /** kitchen(), plan(): "how many LINES". */
    private static void linesThatAreCounted() {
        String[] lines = {"pan 1;", "rest 1;", "cold 1;", "burn 1 2;", "slice a 1 1;", "guest g 1 1;", "sort 1 1;", "slice b 2 2 once;"};
        StringBuilder text = new StringBuilder();
        for (int n = 0; n <= lines.length; n++) {
            Check.due(n + " lines", Check.kitchen(new PanSlices(), text.toString()), n);
            text.append(n < lines.length ? lines[n] : "");
        }
    }

    /** "is the KITCHEN now": what one ahead told, taken or with a FAULT, is nothing to it. */
    private static void nothingOfTheOldKitchen() {
        String old = "pan 4;rest 9;cold 99;burn 1 2;slice a 9 9 once;slice b 9 9 once;guest g 9 9;sort 9 9;";
        for (String text : new String[] {"", "slice b 1 1;", "slice b 1 1;slice a 2 2;guest g 1 1;sort 1 1;", "pan 1;guest a 1 1;"}) {
            String due = Look.at(Check.with(text));
            PanSlices x = Check.with(old);
            Check.kitchen(x, text);
            Check.dueText("behind another", Look.at(x), due);
            x.several();
            Check.due("forgotten behind another", x.forgotten(), -1);
            Check.due("done behind another", x.done(), (1 << x.count(3)) - 1);
            x.undo();
            PanSlices y = new PanSlices();
            Check.due("a FAULT at the end", Check.kitchen(y, old + "?") < 0, true);
            Check.kitchen(y, text);
            Check.dueText("behind a FAULT", Look.at(y), due);
        }
        PanSlices x = Check.with("slice a 1 1;");
        Check.plan(x, "a top 0 0 1;a under 1 0 1;?");
        Check.due("a plan behind a FAULT", Check.plan(x, "a top 5 0 1;"), 1);
        Check.due("goes", x.count(6), 1);
        Check.sentence(x, "once or done or ?");
        Check.due("a sentence behind a FAULT", Check.sentence(x, "not done"), 2);
        Check.due("said", x.said(-1), 1);
    }

    /** fault(): "The kind of the FAULT of the latest kitchen(), plan() or sentence(); 0 without one and ahead of any". */
    private static void latestFault() {
        PanSlices x = new PanSlices();
        Check.due("ahead of any", x.fault(), 0);
        Check.kitchen(x, "pan 5;");
        Check.due("kitchen's", x.fault(), 2);
        Check.feed(x, new byte[] {9});
        x.brown(1, 1);
        Check.due("brown tells none", x.fault(), 2);
        x.served(99);
        x.restore(0);
        Check.due("no other call tells one", x.fault(), 2);
        Check.kitchen(x, "slice a 1 1;");
        Check.due("without one", x.fault(), 0);
        Check.plan(x, "b top 0 0 1;");
        Check.due("plan's", x.fault(), 3);
        Check.plan(x, "");
        Check.due("without one", x.fault(), 0);
        Check.sentence(x, "not not not not not not not not once");
        Check.due("sentence's", x.fault(), 4);
        Check.plan(x, "");
        Check.due("the latest", x.fault(), 0);
        Check.sentence(x, "");
        Check.due("sentence's", x.fault(), 1);
        Check.sentence(x, "once");
        Check.due("without one", x.fault(), 0);
    }

    private static String eight(String word) {
        StringBuilder text = new StringBuilder();
        for (int i = 0; i < 8; i++) {
            text.append(word).append(' ').append(word.charAt(0)).append((char) ('a' + i));
            text.append(' ').append(i + 1).append(' ').append(20 - i).append(word.equals("slice") && i % 2 == 1 ? " once;" : ";");
        }
        return text.toString();
    }

    /** slice(): "NoSuchElementException: no such ones". */
    private static void slicesThatAreAsked() {
        PanSlices x = Check.with(eight("slice"));
        for (int s : new int[] {MIN, -2, -1, 0, 1, 6, 7, 8, 9, MAX}) {
            for (int what : new int[] {MIN, -1, 0, 1, 2, 3, MAX}) {
                if (s >= 0 && s < 8 && what >= 0 && what < 3) {
                    Check.due("slice " + s + " " + what, x.slice(s, what), what == 0 ? s + 1 : what == 1 ? 20 - s : s % 2);
                } else {
                    Check.throwsNoSuch("slice " + s + " " + what, () -> x.slice(s, what));
                }
            }
        }
        Check.kitchen(x, "slice a 1 1;");
        Check.due("slice 0", x.slice(0, 0), 1);
        Check.throwsNoSuch("slice 1 is no more", () -> x.slice(1, 0));
        Check.throwsNoSuch("slice of none", () -> new PanSlices().slice(0, 0));
    }

    /** guest(): "NoSuchElementException: no such ones". */
    private static void guestsThatAreAsked() {
        PanSlices x = Check.with(eight("guest"));
        for (int g : new int[] {MIN, -2, -1, 0, 1, 6, 7, 8, 9, MAX}) {
            for (int what : new int[] {MIN, -1, 0, 1, 2, 3, MAX}) {
                if (g >= 0 && g < 8 && what >= 0 && what < 2) {
                    Check.due("guest " + g + " " + what, x.guest(g, what), what == 0 ? g + 1 : 20 - g);
                } else {
                    Check.throwsNoSuch("guest " + g + " " + what, () -> x.guest(g, what));
                }
            }
        }
        Check.kitchen(x, "guest a 1 1;");
        Check.throwsNoSuch("guest 1 is no more", () -> x.guest(1, 0));
        Check.throwsNoSuch("guest of none", () -> new PanSlices().guest(0, 0));
    }

    /** sort(): "NoSuchElementException: no such ones". */
    private static void sortsThatAreAsked() {
        PanSlices x = Check.with("sort 1 9;sort 2 8;sort 3 7;sort 4 6;sort 5 5;");
        for (int k : new int[] {MIN, -2, -1, 0, 1, 3, 4, 5, 6, MAX}) {
            for (int what : new int[] {MIN, -1, 0, 1, 2, 3, MAX}) {
                if (k >= 0 && k < 5 && what >= 0 && what < 2) {
                    Check.due("sort " + k + " " + what, x.sort(k, what), what == 0 ? k + 1 : 9 - k);
                } else {
                    Check.throwsNoSuch("sort " + k + " " + what, () -> x.sort(k, what));
                }
            }
        }
        Check.kitchen(x, "sort 1 1;");
        Check.throwsNoSuch("sort 1 is no more", () -> x.sort(1, 0));
        Check.throwsNoSuch("sort of none", () -> new PanSlices().sort(0, 0));
    }

    /** why(): "Why the GO of the latest judge() was WRONG; 0: none was; NONE ahead of any". */
    private static void latestWhy() {
        PanSlices x = new PanSlices();
        Check.due("ahead of any", x.why(), -1);
        Check.due("judge of nothing", x.judge(), -1);
        Check.due("none was", x.why(), 0);
        Check.kitchen(x, "slice a 1 1;");
        Check.plan(x, "a top 0 0 2;");
        Check.due("still of the latest judge", x.why(), 0);
        Check.due("judge", x.judge(), 0);
        Check.due("too many", x.why(), 3);
        x.drop(0);
        Check.due("still of the latest judge", x.why(), 3);
        Check.due("judge", x.judge(), -1);
        Check.due("none was", x.why(), 0);
    }

    // ---- SENTENCES ----

    /** sentence(): "how many ONES (each not, bracket and other one)". */
    private static void onesThatAreCounted() {
        PanSlices x = Check.with("slice a 1 1;");
        Check.due("one", Check.sentence(x, "once"), 1);
        Check.due("not", Check.sentence(x, "not once"), 2);
        Check.due("bracket", Check.sentence(x, "(once)"), 2);
        Check.due("and", Check.sentence(x, "once and done"), 2);
        Check.due("or", Check.sentence(x, "once or done"), 2);
        Check.due("all", Check.sentence(x, "not(once or not done)and after a"), 6);
        Check.due("measures", Check.sentence(x, "top<1 and under=2 or goes>3 and ends<4"), 4);
    }

    /** said(): "how many (k NONE), or the k-th one's number. NONE: there is no SENTENCE, none such". */
    private static void whichAreSaid() {
        PanSlices x = Check.with(eight("slice"));
        for (int k : new int[] {MIN, -2, -1, 0, 1, 7, 8, MAX}) {
            Check.due("without a sentence", x.said(k), -1);
        }
        Check.sentence(x, "once");
        Check.due("how many", x.said(-1), 4);
        for (int k = 0; k < 4; k++) {
            Check.due("which " + k, x.said(k), 2 * k + 1);
        }
        for (int k : new int[] {MIN, -3, -2, 4, 5, 8, MAX}) {
            Check.due("none such " + k, x.said(k), -1);
        }
        Check.sentence(x, "top>0");
        Check.due("all", x.said(-1), 8);
        Check.due("the last", x.said(7), 7);
        Check.due("behind the last", x.said(8), -1);
        Check.sentence(x, "top>20");
        Check.due("of none", x.said(-1), 0);
        Check.due("no first", x.said(0), -1);
        PanSlices y = new PanSlices();
        Check.sentence(y, "not once");
        Check.due("no slices", y.said(-1), 0);
        Check.due("no first", y.said(0), -1);
    }

    private static void saidOf(PanSlices x, String text, int... slices) {
        Check.due("fault of " + text, Check.sentence(x, text) > 0, true);
        Check.due("said of " + text, x.said(-1), slices.length);
        for (int k = 0; k < slices.length; k++) {
            Check.due("said of " + text + " " + k, x.said(k), slices[k]);
        }
        Check.due("no more of " + text, x.said(slices.length), -1);
    }

    /** "'top' | 'under' (minutes) .. SIGN NUMBER": less, as many, more. */
    private static void saidOfMinutes() {
        PanSlices x = Check.with("slice a 4 20;slice b 5 1;slice c 6 5;");
        saidOf(x, "top<5", 0);
        saidOf(x, "top=5", 1);
        saidOf(x, "top>5", 2);
        saidOf(x, "top<4");
        saidOf(x, "top>6");
        saidOf(x, "top<7", 0, 1, 2);
        saidOf(x, "under<5", 1);
        saidOf(x, "under=5", 2);
        saidOf(x, "under>5", 0);
        saidOf(x, "under>19", 0);
        saidOf(x, "under>20");
        saidOf(x, "under<1");
        saidOf(x, "under=0");
        saidOf(x, "top<999", 0, 1, 2);
        saidOf(x, "top>999");
        saidOf(x, "top=005", 1);
    }

    /** "'goes' (GOES of it)". */
    private static void saidOfGoes() {
        PanSlices x = Check.with("slice a 4 20;slice b 5 1;slice c 6 5;");
        saidOf(x, "goes=0", 0, 1, 2);
        Check.plan(x, "b top 0 0 1;c top 0 0 1;c under 9 0 1;");
        saidOf(x, "goes=0", 0);
        saidOf(x, "goes<1", 0);
        saidOf(x, "goes=1", 1);
        saidOf(x, "goes<2", 0, 1);
        saidOf(x, "goes>1", 2);
        saidOf(x, "goes>0", 1, 2);
        saidOf(x, "goes>2");
    }

    /** "'ends' (0 without GOES)". */
    private static void saidOfEnds() {
        PanSlices x = Check.with("slice a 4 20;slice b 5 5;slice c 6 5;");
        saidOf(x, "ends=0", 0, 1, 2);
        saidOf(x, "ends<1", 0, 1, 2);
        saidOf(x, "ends>0");
        // The last GO of b begins first in the row and ends last.
        Check.plan(x, "b top 7 0 3;b under 0 0 2;c top 0 1 9;");
        saidOf(x, "ends=0", 0);
        saidOf(x, "ends=9", 2);
        saidOf(x, "ends=10", 1);
        saidOf(x, "ends<10", 0, 2);
        saidOf(x, "ends>9", 1);
        saidOf(x, "ends>10");
        x.later(0, 893);
        saidOf(x, "ends=903", 1);
        saidOf(x, "ends<903", 0, 2);
        saidOf(x, "ends>902", 1);
        saidOf(x, "ends<999", 0, 1, 2);
    }

    /** "'after' SLICE (its last GO ends behind that of the other one's, both having some)". */
    private static void saidOfAfter() {
        PanSlices x = Check.with("slice a 4 20;slice b 5 5;slice c 6 5;slice d 1 1;");
        saidOf(x, "after a");
        Check.plan(x, "a top 0 0 4;b top 0 1 3;b under 3 0 1;c top 0 1 5;");
        saidOf(x, "after a", 2);
        saidOf(x, "after b", 2);
        saidOf(x, "after c");
        saidOf(x, "after d");
        saidOf(x, "not after a", 0, 1, 3);
        // The other one ends at 1, the earliest there is.
        PanSlices y = Check.with("slice a 1 1;slice b 1 1;slice c 1 1;");
        Check.plan(y, "a top 0 0 1;b top 1 0 1;");
        saidOf(y, "after a", 1);
        saidOf(y, "after b");
        saidOf(y, "after c");
        // A minute more or less.
        x.later(2, 1);
        saidOf(x, "after a", 1, 2);
        saidOf(x, "after c");
        x.later(2, 1);
        saidOf(x, "after c", 1);
        saidOf(x, "after b");
    }

    /** "'done' (by the PLAN)". */
    private static void saidOfDone() {
        PanSlices x = Check.with("slice a 2 2;slice b 2 2;slice c 2 2;");
        saidOf(x, "done");
        Check.plan(x, "a top 0 0 2;a under 2 0 1;b top 0 0 2;b under 2 0 2;c top 0 0 3;c under 2 0 3;");
        saidOf(x, "done", 1, 2);
        saidOf(x, "not done", 0);
        x.add(0, 1, 9, 0, 1);
        saidOf(x, "done", 0, 1, 2);
    }

    /** "COND: ALL { 'or' ALL }. ALL: ONE { 'and' ONE }": 'and' binds closer, 'not' the closest. */
    private static void saidByWords() {
        // a is once; b is long; c is both; d is neither.
        PanSlices x = Check.with("slice a 1 1 once;slice b 9 1;slice c 9 1 once;slice d 1 1;");
        saidOf(x, "once", 0, 2);
        saidOf(x, "top=9", 1, 2);
        saidOf(x, "once and top=9", 2);
        saidOf(x, "once or top=9", 0, 1, 2);
        saidOf(x, "not once and top=9", 1);
        saidOf(x, "not (once and top=9)", 0, 1, 3);
        saidOf(x, "not once or top=9", 1, 2, 3);
        saidOf(x, "not (once or top=9)", 3);
        saidOf(x, "not not once", 0, 2);
        saidOf(x, "not not not once", 1, 3);
        saidOf(x, "once or top=9 and under=2", 0, 2);
        saidOf(x, "(once or top=9) and under=2");
        saidOf(x, "under=2 and once or top=9", 1, 2);
        saidOf(x, "under=2 and (once or top=9)");
        saidOf(x, "once and top=1 or not once and top=9", 0, 1);
        saidOf(x, "once and (top=1 or not once) and top<9", 0);
        saidOf(x, "top=1 or top=9 or under=2", 0, 1, 2, 3);
        saidOf(x, "top=1 and once and not done and under=1", 0);
        saidOf(x, "once or " + "(".repeat(6) + "not top=9" + ")".repeat(6), 0, 2, 3);
        saidOf(x, "top=2" + " or top=2".repeat(18) + " or once", 0, 2);
    }

    /** A SENTENCE is said of the PLAN there is when it is asked. */
    private static void sentenceIsOfThePlanNow() {
        PanSlices x = Check.with("slice a 1 1;slice b 1 1;");
        Check.sentence(x, "done");
        Check.due("no plan", x.said(-1), 0);
        x.several();
        Check.due("the new plan", x.said(-1), 2);
        x.drop(0);
        Check.due("without one GO", x.said(-1), 1);
        Check.due("only b", x.said(0), 1);
        x.undo();
        Check.due("back", x.said(-1), 2);
    }

    // ---- images ----

    /** image(): "kept in place k (0, 1): true; false: no such one". */
    private static void imagesThatAreKept() {
        for (int k : new int[] {MIN, -2, -1, 0, 1, 2, 3, MAX}) {
            PanSlices x = Check.with("slice a 1 1;");
            boolean is = k == 0 || k == 1;
            Check.due("restore " + k + " of nothing", x.restore(k), false);
            Check.due("image " + k, x.image(k), is);
            Check.due("restore " + k, x.restore(k), is);
            Check.due("restore 0", x.restore(0), k == 0);
            Check.due("restore 1", x.restore(1), k == 1);
        }
        // An object without anything told can be kept too.
        PanSlices x = new PanSlices();
        Check.due("image", x.image(1), true);
        Check.kitchen(x, "pan 4;slice a 1 1;");
        Check.due("restore", x.restore(1), true);
        Check.due("slices", x.count(3), 0);
        Check.due("places", x.count(0), 2);
    }

    /** restore(): "They are as kept in place k". */
    private static void restoredParts() {
        PanSlices x = Check.with("pan 4;rest 9;cold 99;burn 1 2;" + eight("slice") + eight("guest") + "sort 1 9;sort 9 1;");
        x.cook(1);
        Check.sentence(x, "once and not after sa");
        String kept = Look.but(Look.at(x), "fault", "tape");
        String plan = Check.written(x);
        x.image(0);
        Check.kitchen(x, "slice a 1 1;");
        x.several();
        Check.sentence(x, "done");
        x.image(1);
        String other = Look.but(Look.at(x), "fault", "tape", "text");
        for (int i = 0; i < 3; i++) {
            Check.due("restore 0", x.restore(0), true);
            Check.dueText("names", Check.written(x), plan);
            Check.dueText("all of 0", Look.but(Look.at(x), "fault", "tape", "text"), Look.but(kept, "text"));
            Check.due("undo", x.undo(), -1);
            // What is done then does not reach what is kept.
            x.masters();
            Check.due("undo", x.undo(), 0);
            x.drop(0);
            Check.sentence(x, "once");
            Check.due("restore 1", x.restore(1), true);
            Check.dueText("all of 1", Look.but(Look.at(x), "fault", "tape", "text"), other);
            Check.due("undo", x.undo(), -1);
            Check.kitchen(x, "");
        }
        // 400 GOES are kept whole.
        PanSlices y = Check.with("slice a 20 20;");
        for (int i = 0; i < 400; i++) {
            y.add(0, i % 2, i % 241, i % 2, 1 + i % 20);
        }
        String all = Check.written(y);
        y.image(0);
        y.several();
        Check.due("restore", y.restore(0), true);
        Check.dueText("400 goes", Check.written(y), all);
    }

    /** count(): "NONE for another what". */
    private static void counts() {
        PanSlices x = Check.with("pan 4;rest 9;cold 99;" + eight("slice") + eight("guest") + "sort 1 1;".repeat(5));
        x.add(0, 0, 0, 0, 1);
        Check.feed(x, "seven b");
        int[] due = {4, 9, 99, 8, 8, 5, 1, 7};
        for (int what : new int[] {MIN, -2, -1, 0, 1, 2, 3, 4, 5, 6, 7, 8, 9, MAX}) {
            Check.due("count " + what, x.count(what), what >= 0 && what < 8 ? due[what] : -1);
        }
    }
}
