import java.util.NoSuchElementException;

/**
 * A refused call changes nothing but what the document says: two objects come by the same calls, the call is refused by
 * one of them, and behind it the two are alike in all that can be seen.
 */
public final class RefusedTest {
    private static final int MIN = Integer.MIN_VALUE;
    private static final int MAX = Integer.MAX_VALUE;
    private static final String KITCHEN = "pan 3;rest 1;cold 5;burn 1 4;slice a 3 4;slice bcdefg 2 2 once;slice c 9 9;"
        + "guest g 5 9;guest h 6 3;sort 2 5;sort 1 3;";
    private static final String NEXT_KITCHEN = "pan 4;slice zz 1 2;";

    private interface Asked {
        long of(PanSlices x);
    }

    private interface Made {
        PanSlices object();
    }

    private RefusedTest() { }

    public static void main(String[] args) {
        looksTellApart();
        numbersRefused(RefusedTest::rich);
        numbersRefused(RefusedTest::fresh);
        numbersRefused(RefusedTest::fullOfChanges);
        throwing(RefusedTest::rich);
        throwing(RefusedTest::fresh);
        onlyAsked();
        fullTape();
        nothingKept();
        nothingToComeBack();
        earlyOfNothing();
        fullPlan();
        withoutSlices();
        fiveSlices();
        faultsOfTexts();
        brownRefused();
        textsTaken();
        newKitchen();
        imageAndRestore();
        Check.close("RefusedTest");
    }

    // ---- the objects ----

    private static PanSlices fresh() {
        return new PanSlices();
    }

    /** Something of everything: a PLAN, PLANS that can come back, a SENTENCE, an image, answers told last, a tape. */
    private static PanSlices rich() {
        PanSlices x = Check.with(KITCHEN);
        Check.plan(x, "c top 0 0 9;a under 3 1 4;");
        Check.sentence(x, "once or ends>7");
        x.image(0);
        x.cook(1);
        x.several();
        x.add(2, 1, 200, 2, 20);
        x.later(1, 3);
        x.judge();
        x.write();
        x.drop(0);
        x.served(3);
        x.hotel(5, 2, 4);
        Check.plan(x, "nobody");
        Check.feed(x, NEXT_KITCHEN);
        return x;
    }

    /** As many PLANS that can come back as are kept, and two images. */
    private static PanSlices fullOfChanges() {
        PanSlices x = rich();
        x.image(1);
        for (int i = 0; i < 9; i++) {
            x.add(i % 3, i % 2, 10 * i, i % 3, 1 + i);
        }
        return x;
    }

    private static void refused(String what, Made made, long due, Asked call) {
        PanSlices x = made.object();
        PanSlices twin = made.object();
        Check.due(what, call.of(x), due);
        Check.dueText("seen behind " + what, Look.through(x), Look.through(twin));
    }

    /** The look itself sees each kind of change. */
    private static void looksTellApart() {
        String first = Look.through(rich());
        Check.dueText("two made alike", Look.through(rich()), first);
        Asked[] changes = {x -> x.feed(0, 0, 0, 0, 0), x -> x.end(3) ? 1 : 0, x -> x.kitchen(), x -> x.plan(), x -> x.sentence(),
            x -> x.write(), x -> x.several(), x -> x.one(), x -> x.masters(), x -> x.cook(0), x -> x.add(0, 0, 0, 0, 1),
            x -> x.drop(0) ? 1 : 0, x -> x.later(0, 1) ? 1 : 0, x -> x.early(), x -> x.undo(), x -> x.served(1),
            x -> x.hotel(9, 2, 4), x -> x.image(0) ? 1 : 0, x -> x.image(1) ? 1 : 0, x -> x.restore(0) ? 1 : 0};
        for (int i = 0; i < changes.length; i++) {
            PanSlices x = rich();
            changes[i].of(x);
            Check.due("change " + i + " is seen", Look.through(x).equals(first), false);
        }
    }

    // ---- calls refused by their numbers ----

    private static void numbersRefused(Made made) {
        int[] outside = {MIN, MIN + 1, -1000, -2, 1000, 4001, MAX - 1, MAX};
        for (int n : outside) {
            asNone(made, n);
            asFalse(made, n);
        }
        asNone(made, -1);
        asFalse(made, -1);
        refused("end past the tape", made, 0, x -> x.end(x.count(7) + 1) ? 1 : 0);
        refused("go 5", made, -1, x -> x.go(0, 5));
        refused("go past the last", made, -1, x -> x.go(x.count(6), 0));
        refused("on 1000", made, -1, x -> x.on(1000));
        refused("cook 3", made, -1, x -> x.cook(3));
        refused("bound 4", made, -1, x -> x.bound(4));
        refused("drop past the last", made, 0, x -> x.drop(x.count(6)) ? 1 : 0);
        refused("later past the last", made, 0, x -> x.later(x.count(6), 1) ? 1 : 0);
        refused("later by nothing", made, 0, x -> x.later(0, 0) ? 1 : 0);
        refused("later behind 900", made, 0, x -> x.later(0, 901 - Math.max(0, x.go(0, 2))) ? 1 : 0);
        refused("later ahead of 0", made, 0, x -> x.later(0, -1 - Math.max(0, x.go(0, 2))) ? 1 : 0);
        refused("idle of no place", made, -1, x -> x.idle(x.count(0)));
        refused("fewest that can't be", made, -1, x -> x.fewest(1, 20, 39));
        refused("hotel that can't be", made, -1, x -> x.hotel(1, 20, 39));
        refused("alike 61", made, -1, x -> x.alike(1, 61));
        refused("alikeAt nothing", made, -1, x -> x.alikeAt(1, 2, 0, 1));
        refused("served 0", made, -1, x -> x.served(0));
        refused("served 41", made, -1, x -> x.served(41));
        refused("hotel 201", made, -1, x -> x.hotel(201, 1, 2));
        refused("mornings 0", made, -1, x -> x.mornings(0, 1));
        refused("mornings 101", made, -1, x -> x.mornings(101, 1));
        refused("said 8", made, -1, x -> x.said(8));
        refused("image 2", made, 0, x -> x.image(2) ? 1 : 0);
        refused("restore 2", made, 0, x -> x.restore(2) ? 1 : 0);
        refused("count 8", made, -1, x -> x.count(8));
        refused("add past the slices", made, -1, x -> x.add(x.count(3), 0, 0, 0, 1));
        refused("add side 2", made, -1, x -> x.add(0, 2, 0, 0, 1));
        refused("add at 241", made, -1, x -> x.add(0, 0, 241, 0, 1));
        refused("add past the places", made, -1, x -> x.add(0, 0, 0, x.count(0), 1));
        refused("add for 0", made, -1, x -> x.add(0, 0, 0, 0, 0));
        refused("add for 21", made, -1, x -> x.add(0, 0, 0, 0, 21));
    }

    private static void asNone(Made made, int n) {
        refused("go " + n, made, -1, x -> x.go(n, 0));
        refused("go what " + n, made, -1, x -> x.go(0, n));
        refused("on " + n, made, -1, x -> x.on(n));
        refused("byteAt " + n, made, -1, x -> x.byteAt(n));
        refused("cook " + n, made, -1, x -> x.cook(n));
        refused("bound " + n, made, -1, x -> x.bound(n));
        refused("add " + n, made, -1, x -> x.add(n, 0, 0, 0, 1));
        refused("add side " + n, made, -1, x -> x.add(0, n, 0, 0, 1));
        refused("add at " + n, made, -1, x -> x.add(0, 0, n, 0, 1));
        refused("add on " + n, made, -1, x -> x.add(0, 0, 0, n, 1));
        refused("add for " + n, made, -1, x -> x.add(0, 0, 0, 0, n));
        refused("idle " + n, made, -1, x -> x.idle(n));
        refused("fewest of " + n + " a side", made, -1, x -> x.fewest(1, n, 9));
        refused("fewest in " + n, made, -1, x -> x.fewest(1, 1, n == 4001 ? -n : n));
        refused("alike on " + n, made, -1, x -> x.alike(1, n));
        refused("alikeAt " + n, made, -1, x -> x.alikeAt(3, 2, n, 0));
        refused("alikeAt place " + n, made, -1, x -> x.alikeAt(3, 2, 0, n));
        refused("served " + n, made, -1, x -> x.served(n));
        refused("servedAt " + n, made, -1, x -> x.servedAt(n));
        refused("hotel " + n, made, -1, x -> x.hotel(n, 1, 2));
        refused("hotel of " + n + " a side", made, -1, x -> x.hotel(1, n, 2));
        refused("hotel in " + n, made, -1, x -> x.hotel(1, 1, n));
        refused("pans " + n, made, -1, x -> x.pans(n));
        refused("mornings " + n, made, -1, x -> x.mornings(n, 1));
        refused("count " + n, made, -1, x -> x.count(n));
        if (n != -1) {
            refused("said " + n, made, -1, x -> x.said(n));
        }
        if (n != 1000) {
            refused("fewest of " + n, made, -1, x -> x.fewest(n, 1, 9));
            refused("alike " + n, made, -1, x -> x.alike(n, 1));
        }
    }

    private static void asFalse(Made made, int n) {
        refused("end " + n, made, 0, x -> x.end(n) ? 1 : 0);
        refused("drop " + n, made, 0, x -> x.drop(n) ? 1 : 0);
        refused("later of " + n, made, 0, x -> x.later(n, 1) ? 1 : 0);
        refused("image " + n, made, 0, x -> x.image(n) ? 1 : 0);
        refused("restore " + n, made, 0, x -> x.restore(n) ? 1 : 0);
        if (n < -1 || n > 900) {
            refused("later by " + n, made, 0, x -> x.later(0, n < 0 ? Math.min(n, -900) : n) ? 1 : 0);
        }
    }

    /** "A call that throws changes nothing." */
    private static void throwing(Made made) {
        int[][] none = {{-1, 0}, {MIN, 0}, {MAX, 0}, {8, 0}, {3, 0}, {0, -1}, {0, MIN}, {0, 3}, {0, MAX}};
        for (int[] a : none) {
            thrown("slice", made, x -> x.slice(a[0], a[1]));
            thrown("guest", made, x -> x.guest(a[0], a[1]));
            thrown("sort", made, x -> x.sort(a[0], a[1]));
            thrown("left", made, x -> x.left(a[0], a[1]));
            thrown("mean", made, x -> x.mean(a[0], a[1]));
        }
        thrown("guest 2", made, x -> x.guest(2, 0));
        thrown("guest what 2", made, x -> x.guest(0, 2));
        thrown("sort 2", made, x -> x.sort(2, 0));
        thrown("sort what 2", made, x -> x.sort(0, 2));
        thrown("left of side 2", made, x -> x.left(0, 2));
        thrown("mean what 2", made, x -> x.mean(0, 2));
    }

    private static void thrown(String what, Made made, Asked call) {
        refused(what, made, -77, x -> {
            try {
                return call.of(x);
            } catch (NoSuchElementException e) {
                return -77;
            }
        });
    }

    /** Calls that answer and are not told to change anything. */
    private static void onlyAsked() {
        Made made = RefusedTest::rich;
        refused("best", made, rich().best(), x -> x.best());
        refused("morning", made, rich().morning(5), x -> x.morning(5));
        refused("mornings", made, rich().mornings(100, 5), x -> x.mornings(100, 5));
        refused("fewest", made, 2, x -> x.fewest(3, 1, 3));
        refused("alike", made, 3, x -> x.alike(3, 2));
        refused("alikeAt", made, 5, x -> x.alikeAt(3, 2, 2, 1));
        // judge(), write(), served() and hotel() tell something, and change nothing else.
        PanSlices x = rich();
        x.judge();
        x.write();
        x.served(40);
        x.hotel(200, 1, 2);
        String[] told = {"why", "text", "served", "pans"};
        Check.dueText("all but what they tell", Look.but(Look.through(x), told), Look.but(Look.through(rich()), told));
    }

    // ---- calls refused by what is there ----

    /** feed(): "NONE, and none come, if it would have more than 640". */
    private static void fullTape() {
        for (int length : new int[] {621, 622, 639, 640}) {
            Made made = () -> {
                PanSlices x = rich();
                Check.feed(x, NEXT_KITCHEN + " ".repeat(length - NEXT_KITCHEN.length()));
                return x;
            };
            refused("feed at " + length, made, -1, x -> x.feed(MIN, -1, 0, 1, MAX));
            // What the tape has stays as it was: cut to the text, it is read.
            PanSlices x = made.object();
            x.feed(-1, -1, -1, -1, -1);
            Check.due("bytes", x.count(7), length);
            x.end(NEXT_KITCHEN.length());
            Check.due("kitchen", x.kitchen(), 2);
        }
        PanSlices x = rich();
        Check.feed(x, " ".repeat(620));
        Check.due("feed at 620", x.feed(-1, -1, -1, -1, -1), 640);
    }

    /** restore(): "false: no such one, or nothing is kept there". */
    private static void nothingKept() {
        refused("restore 1 of a rich one", RefusedTest::rich, 0, x -> x.restore(1) ? 1 : 0);
        refused("restore 0 of a new one", RefusedTest::fresh, 0, x -> x.restore(0) ? 1 : 0);
        refused("restore 1 of a new one", RefusedTest::fresh, 0, x -> x.restore(1) ? 1 : 0);
    }

    /** undo(): "NONE: none". */
    private static void nothingToComeBack() {
        refused("undo of a new one", RefusedTest::fresh, -1, x -> x.undo());
        Made restored = () -> {
            PanSlices x = rich();
            x.restore(0);
            return x;
        };
        refused("undo behind restore", restored, -1, x -> x.undo());
        Made all = () -> {
            PanSlices x = rich();
            for (int left = 5; left >= 0; left--) {
                Check.due("undo of six", x.undo(), left);
            }
            return x;
        };
        refused("undo behind the last", all, -1, x -> x.undo());
    }

    /** early(): only "early() above 0" can come back. */
    private static void earlyOfNothing() {
        Made made = () -> {
            PanSlices x = rich();
            x.early();
            return x;
        };
        refused("early that moves nothing", made, 0, x -> x.early());
        refused("early of a new one", RefusedTest::fresh, 0, x -> x.early());
    }

    /** add(): "NONE: .. 400 GOES are there". */
    private static void fullPlan() {
        Made made = () -> {
            PanSlices x = rich();
            for (int i = x.count(6); i < 400; i++) {
                x.add(i % 3, i % 2, i % 241, i % 3, 1 + i % 20);
            }
            return x;
        };
        Check.due("goes", made.object().count(6), 400);
        refused("add", made, -1, x -> x.add(0, 0, 0, 0, 1));
    }

    /** "NONE: no SLICES (the PLAN stays, here and below)". */
    private static void withoutSlices() {
        Made made = () -> {
            PanSlices x = rich();
            Check.kitchen(x, "pan 1;guest g 1 1;sort 1 1;");
            Check.plan(x, "");
            Check.sentence(x, "done");
            Check.feed(x, NEXT_KITCHEN);
            return x;
        };
        refused("several", made, -1, x -> x.several());
        refused("one", made, -1, x -> x.one());
        refused("masters", made, -1, x -> x.masters());
        refused("cook 0", made, -1, x -> x.cook(0));
        refused("cook 1", made, -1, x -> x.cook(1));
        refused("cook 2", made, -1, x -> x.cook(2));
        refused("best", made, -1, x -> x.best());
        refused("morning", made, -1, x -> x.morning(1));
        refused("mornings", made, -1, x -> x.mornings(1, 1));
        refused("add", made, -1, x -> x.add(0, 0, 0, 0, 1));
        refused("forgotten", made, -1, x -> x.forgotten());
        refused("said 0", made, -1, x -> x.said(0));
    }

    /** one(): "NONE: .. more than 4". */
    private static void fiveSlices() {
        for (int n = 5; n <= 8; n++) {
            StringBuilder text = new StringBuilder();
            for (int s = 0; s < n; s++) {
                text.append("slice ").append((char) ('a' + s)).append(" 1 1;");
            }
            Made made = () -> {
                PanSlices x = rich();
                Check.kitchen(x, text.toString());
                x.several();
                x.drop(3);
                Check.feed(x, NEXT_KITCHEN);
                return x;
            };
            refused("one of " + n, made, -1, x -> x.one());
        }
    }

    // ---- texts that are refused: the tape is empty then, the kind of the FAULT is told, the rest stays ----

    private static PanSlices emptied() {
        PanSlices x = rich();
        x.end(0);
        return x;
    }

    private static void faulty(String text, int which, int place, int kind) {
        PanSlices x = rich();
        Check.feed(x, text);
        int answer = which == 0 ? x.kitchen() : which == 1 ? x.plan() : x.sentence();
        Check.due("place of " + text, answer, -1 - place);
        Check.due("kind of " + text, x.fault(), kind);
        Check.due("the tape is empty behind " + text, x.count(7), 0);
        Check.dueText("all but the FAULT behind " + text, Look.but(Look.through(x), "fault"), Look.but(Look.through(emptied()), "fault"));
    }

    /** "-1 less the place of a FAULT: it stays". */
    private static void faultsOfTexts() {
        // Each with much that was read without a FAULT ahead of it.
        String kitchen = "pan 1;rest 9;cold 1;burn 2 9;slice a 7 7 once;slice new 1 1;guest a1 1 1;";
        faulty(kitchen, 0, kitchen.indexOf("a1"), 1);
        faulty("pan 1;rest 9;cold 1;burn 2 9;slice a 7 7 once;slice b 1 21;", 0, 56, 2);
        faulty("pan 1;slice q 1 1;guest q 1 1;", 0, 24, 3);
        faulty("sort 9 9;".repeat(6), 0, 45, 4);
        faulty("pan 1", 0, 5, 1);
        faulty(" ".repeat(601), 0, 600, 1);
        faulty("a top 7 0 1;a under", 1, 19, 1);
        faulty("a top 7 0 1;a under 241 0 1;", 1, 20, 2);
        faulty("a top 7 0 1;g under 240 0 1;", 1, 12, 3);
        faulty("a top 7 0 1;".repeat(31), 1, 360, 4);
        faulty(" ".repeat(640), 1, 600, 1);
        faulty("done and", 2, 8, 1);
        faulty("", 2, 0, 1);
        faulty("done and after g", 2, 15, 3);
        faulty("not not not not not not not not done", 2, 32, 4);
        faulty(" ".repeat(200) + "done", 2, 200, 1);
    }

    /** brown(): the tape is empty then, also when it is not as told. */
    private static void brownRefused() {
        int[][] asked = {{-1, 1}, {11, 1}, {1, 0}, {1, 5}, {MIN, MIN}, {MAX, MAX}, {1, 1}};
        for (int[] a : asked) {
            PanSlices x = rich();
            // The tape of the rich one is a text: more than five bytes.
            Check.due("brown " + a[0] + " " + a[1], x.brown(a[0], a[1]), -1);
            Check.dueText("all but the tape", Look.through(x), Look.through(emptied()));
        }
        PanSlices x = rich();
        Check.feed(x, new byte[] {3, 3, 3});
        Check.due("brown as told", x.brown(3, 2), 48);
        Check.dueText("all but the tape", Look.through(x), Look.through(emptied()));
    }

    // ---- calls that are done change what they are told to, and nothing else ----

    /** plan() and sentence() without a FAULT. */
    private static void textsTaken() {
        PanSlices x = rich();
        Check.due("plan", Check.plan(x, "a top 7 0 1;"), 1);
        Check.due("fault", x.fault(), 0);
        Check.due("tape", x.count(7), 0);
        Check.dueText("all but the PLAN", Look.but(Look.at(x), "fault", "plan", "said", "kitchen"),
            Look.but(Look.at(emptied()), "fault", "plan", "said", "kitchen"));
        Check.due("undo", x.undo(), 6);
        Check.dueText("and back", Look.but(Look.through(x), "fault"), Look.but(Look.through(emptied()), "fault"));
        x = rich();
        Check.due("sentence", Check.sentence(x, "top=3"), 1);
        Check.due("fault", x.fault(), 0);
        Check.due("said", x.said(0), 0);
        Check.due("said", x.said(-1), 1);
        Check.dueText("all but the SENTENCE", Look.but(Look.at(x), "fault", "said"), Look.but(Look.at(emptied()), "fault", "said"));
        Check.due("a sentence can't come back", x.undo(), 5);
        Check.due("said", x.said(-1), 1);
    }

    /** "A new KITCHEN: no PLAN (and none that can come back), no SENTENCE." */
    private static void newKitchen() {
        for (String text : new String[] {"", NEXT_KITCHEN, KITCHEN}) {
            PanSlices x = rich();
            Check.feed(x, text);
            Check.due("kitchen " + text, x.kitchen() >= 0, true);
            PanSlices as = Check.with(text);
            String[] stay = {"why", "text", "served", "pans"};
            Check.dueText("as a new object's", Look.but(Look.at(x), stay), Look.but(Look.at(as), stay));
            Check.dueText("what other calls told stays", Look.but(Look.at(x), "fault", "tape", "kitchen", "plan", "said"),
                Look.but(Look.at(rich()), "fault", "tape", "kitchen", "plan", "said"));
            Check.due("none comes back", x.undo(), -1);
            Check.due("the image is there", x.restore(0), true);
            Check.due("and no other", x.restore(1), false);
            Check.due("with its PLAN", x.count(6), 2);
        }
    }

    /** image(), restore(): "(the tape, and what other calls told last, stays; no PLAN can come back by undo())". */
    private static void imageAndRestore() {
        PanSlices x = rich();
        Check.due("image", x.image(1), true);
        Check.dueText("an image changes nothing else", Look.at(x), Look.at(rich()));
        Check.due("undo is as it was", x.undo(), 5);
        x = rich();
        Check.due("restore", x.restore(0), true);
        Check.dueText("what stays", Look.but(Look.at(x), "kitchen", "plan", "said"), Look.but(Look.at(rich()), "kitchen", "plan", "said"));
        Check.dueText("what was kept", Check.written(x), "c t 0 0 9;a u 3 1 4;");
        Check.due("none comes back", x.undo(), -1);
        Check.due("the tape's text", x.kitchen(), 2);
        // Kept at once and restored: all is as it was but what can come back.
        x = rich();
        x.image(1);
        x.restore(1);
        Check.dueText("kept and restored", Look.at(x), Look.at(rich()));
        Check.due("none comes back", x.undo(), -1);
        // A place is kept anew; the other one stays.
        x = rich();
        x.image(1);
        x.several();
        x.image(0);
        x.drop(0);
        Check.due("restore 1", x.restore(1), true);
        Check.dueText("as kept in 1", Look.at(x), Look.at(rich()));
        Check.due("restore 0", x.restore(0), true);
        Check.due("the PLAN of several", x.forgotten(), -1);
    }
}
