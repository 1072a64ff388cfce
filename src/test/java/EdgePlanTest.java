import java.util.Random;

/** The edges of GOES and PLANS: WRONG, DONE, what is made, and promises 10 to 31. One test a sentence. */
public final class EdgePlanTest {
    private EdgePlanTest() { }

    public static void main(String[] args) {
        wrongPlace();
        wrongSlice();
        wrongMinutes();
        wrongOnce();
        wrongRest();
        wrongAtTheFarEnd();
        doneSlices();
        planEnds();
        goesThatAreAsked();
        minutesThatAreAsked();
        bytesThatAreAsked();
        longestText();
        numbersWritten();
        severalOrLongest();
        severalCuts();
        slicesOfOne();
        restOfOne();
        oneIsTheFirstOrder();
        mastersWait();
        mastersTakeTheFirst();
        rulesOfCooks();
        restOfCooks();
        likingOfCooks();
        onceOfCooks();
        bestOfAll();
        boundsThatAreAsked();
        addedNumbers();
        fourHundredGoes();
        droppedGoes();
        laterMinutes();
        earlyMinutes();
        earlyRest();
        earlyOfDrawnPlans();
        earlyOfThoseThatCannot();
        undoneChanges();
        eightAreKept();
        idlePlaces();
        forgottenSides();
        Check.close("EdgePlanTest");
    }

    private static void dueWrong(PanSlices x, String what, int go, int kind) {
        Check.due("judge " + what, x.judge(), go);
        Check.due("why " + what, x.why(), kind);
    }

    /** "1 its PLACE is taken in one of its minutes". */
    private static void wrongPlace() {
        PanSlices x = Check.with("pan 2;slice a 20 20;slice b 20 20;");
        x.add(0, 0, 10, 0, 4);
        for (int begin = 4; begin <= 15; begin++) {
            for (int n = 1; n <= 6; n++) {
                boolean taken = begin + n > 10 && begin < 14;
                x.add(1, 0, begin, 0, n);
                dueWrong(x, "from " + begin + " for " + n, taken ? 1 : -1, taken ? 1 : 0);
                x.drop(1);
            }
        }
        x.add(1, 0, 10, 1, 4);
        dueWrong(x, "beside", -1, 0);
    }

    /** "2 its SLICE is on in one of them". */
    private static void wrongSlice() {
        PanSlices x = Check.with("pan 2;slice a 20 20;slice b 20 20;");
        x.add(0, 0, 10, 0, 4);
        for (int side = 0; side < 2; side++) {
            for (int begin = 4; begin <= 15; begin++) {
                for (int n = 1; n <= 6; n++) {
                    boolean on = begin + n > 10 && begin < 14;
                    x.add(0, side, begin, 1, n);
                    dueWrong(x, "side " + side + " from " + begin + " for " + n, on ? 1 : -1, on ? 2 : 0);
                    x.drop(1);
                }
            }
        }
    }

    /** "3 its side would have more minutes than it needs". */
    private static void wrongMinutes() {
        for (int need = 1; need <= 20; need++) {
            PanSlices x = Check.with("slice a " + need + " 20;slice b 20 20;");
            for (int had = 0; had < need; had++) {
                for (int n = Math.max(1, need - had - 1); n <= Math.min(20, need - had + 1); n++) {
                    Check.plan(x, had == 0 ? "" : "a top 0 0 " + had + ";");
                    x.add(0, 1, 100, 0, 20);
                    x.add(0, 0, 50, 0, n);
                    boolean more = had + n > need;
                    dueWrong(x, had + " and " + n + " of " + need, more ? x.count(6) - 1 : -1, more ? 3 : 0);
                }
            }
        }
    }

    /** "4 its SLICE is one of 'once', and the side was on already". */
    private static void wrongOnce() {
        PanSlices x = Check.with("slice a 20 20 once;slice b 20 20;");
        Check.plan(x, "a top 0 0 1;a under 1 0 1;b top 2 0 1;b top 3 0 1;");
        dueWrong(x, "each side once", -1, 0);
        x.add(0, 1, 4, 0, 1);
        dueWrong(x, "under again", 4, 4);
        Check.plan(x, "a top 9 0 1;a top 0 0 1;");
        dueWrong(x, "again, but earlier", 1, 4);
        Check.plan(x, "a top 0 0 1;a top 1 0 1;");
        dueWrong(x, "again at once, on the same PLACE", 1, 4);
    }

    /** "5 fewer than 'rest' minutes are between it and a GO of the SLICE's other side". */
    private static void wrongRest() {
        for (int rest = 0; rest <= 9; rest++) {
            PanSlices x = Check.with("rest " + rest + ";slice a 20 20;slice b 20 20;");
            for (int side = 0; side < 2; side++) {
                x.add(0, side, 50, 0, 5);
                for (int between = 0; between <= 10; between++) {
                    boolean fewer = between < rest;
                    x.add(0, 1 - side, 55 + between, 0, 2);
                    dueWrong(x, between + " of " + rest + " behind", fewer ? 1 : -1, fewer ? 5 : 0);
                    x.drop(1);
                    x.add(0, 1 - side, 50 - between - 2, 0, 2);
                    dueWrong(x, between + " of " + rest + " ahead", fewer ? 1 : -1, fewer ? 5 : 0);
                    x.drop(1);
                }
                // The same side and another SLICE need no rest.
                x.add(0, side, 55, 0, 2);
                x.add(1, 1 - side, 57, 0, 2);
                dueWrong(x, "no other side", -1, 0);
                Check.plan(x, "");
            }
        }
    }

    private static void wrongAtTheFarEnd() {
        PanSlices x = Check.with("rest 9;pan 2;slice a 20 20;slice b 20 20;");
        Check.plan(x, "a top 240 0 20;b top 240 0 1;a under 240 1 20;");
        x.later(0, 660);
        x.later(1, 660);
        dueWrong(x, "at 900", 1, 1);
        x.later(1, -1);
        dueWrong(x, "at 899", -1, 0);
        x.later(2, 631);
        dueWrong(x, "nine minutes ahead of 900", -1, 0);
        x.later(2, 1);
        dueWrong(x, "eight minutes ahead of 900", 2, 5);
        Check.due("ends", x.ends(), 920);
        Check.due("on 919", x.on(919), 1);
        Check.due("on 920", x.on(920), 0);
        Check.plan(x, "a top 0 0 1;a under 9 1 1;");
        dueWrong(x, "rest ahead of minute 0 is nothing", 1, 5);
        x.later(1, 1);
        dueWrong(x, "rest from minute 0", -1, 0);
    }

    /** "A SLICE is DONE, if both its sides have all their minutes"; "below 0: it has too many". */
    private static void doneSlices() {
        PanSlices x = Check.with("pan 4;slice a 4 4;slice b 1 1;");
        for (int top = 3; top <= 5; top++) {
            for (int under = 3; under <= 5; under++) {
                Check.plan(x, "a top 0 0 " + top + ";a under 9 0 " + (under - 1) + ";a under 9 1 1;");
                boolean done = top >= 4 && under >= 4;
                Check.due("done " + top + " " + under, x.done(), done ? 1 : 0);
                Check.due("left of top", x.left(0, 0), 4 - top);
                Check.due("left of under", x.left(0, 1), 4 - under);
                Check.due("forgotten", x.forgotten(), top < 4 ? 0 : under < 4 ? 1 : 2);
            }
        }
        Check.due("done of nothing", new PanSlices().done(), 0);
        x = Check.with("slice a 1 1;slice b 1 1;slice c 1 1;slice d 1 1;slice e 1 1;slice f 1 1;slice g 1 1;slice h 1 1;");
        Check.due("all of eight are left", x.done(), 0);
        x.several();
        Check.due("all of eight", x.done(), 255);
        x.drop(x.count(6) - 1);
        Check.due("all but the eighth", x.done(), 127);
        PanSlices y = Check.with("slice a 1 1;");
        int[][] none = {{-1, 0}, {1, 0}, {0, -1}, {0, 2}, {Integer.MIN_VALUE, 0}, {Integer.MAX_VALUE, 0}};
        for (int[] at : none) {
            Check.throwsNoSuch("left " + at[0] + " " + at[1], () -> y.left(at[0], at[1]));
        }
        Check.due("left 0 0", y.left(0, 0), 1);
        Check.due("left 0 1", y.left(0, 1), 1);
        Check.throwsNoSuch("left without slices", () -> new PanSlices().left(0, 0));
    }

    /** "A PLAN ENDS at the minute behind its last one"; "(0: no GOES)". */
    private static void planEnds() {
        PanSlices x = Check.with("slice a 20 20;");
        Check.due("no goes", x.ends(), 0);
        Check.plan(x, "a top 0 0 1;");
        Check.due("one minute", x.ends(), 1);
        Check.plan(x, "a top 5 0 1;a top 0 0 7;a top 1 0 2;");
        Check.due("the last minute, not the last GO", x.ends(), 7);
        Check.plan(x, "a top 240 0 20;");
        Check.due("the latest told", x.ends(), 260);
        x.later(0, 660);
        Check.due("the latest of all", x.ends(), 920);
        x.drop(0);
        Check.due("no goes again", x.ends(), 0);
    }

    /** go(): "NONE: no such ones". */
    private static void goesThatAreAsked() {
        PanSlices x = Check.with("slice a 20 20;");
        for (int what = -1; what <= 5; what++) {
            Check.due("go 0 of none", x.go(0, what), -1);
        }
        Check.plan(x, "a under 7 1 3;a top 9 0 2;");
        int[][] due = {{0, 1, 7, 1, 3}, {0, 0, 9, 0, 2}};
        int[] odd = {Integer.MIN_VALUE, -2, -1, 0, 1, 2, 3, 4, 5, 6, 400, Integer.MAX_VALUE};
        for (int k : odd) {
            for (int what : odd) {
                boolean is = k >= 0 && k < 2 && what >= 0 && what < 5;
                Check.due("go " + k + " " + what, x.go(k, what), is ? due[k][what] : -1);
            }
        }
    }

    /** on(): "(0 to 999; else NONE)". */
    private static void minutesThatAreAsked() {
        PanSlices x = Check.with("slice a 20 20;slice b 20 20;");
        for (int minute : new int[] {Integer.MIN_VALUE, -1, 1000, 1001, Integer.MAX_VALUE}) {
            Check.due("on " + minute, x.on(minute), -1);
        }
        for (int minute : new int[] {0, 1, 998, 999}) {
            Check.due("on " + minute, x.on(minute), 0);
        }
        Check.plan(x, "a top 0 0 1;b top 5 0 3;a top 7 1 2;");
        int[] due = {1, 0, 0, 0, 0, 2, 2, 3, 1, 0};
        for (int minute = 0; minute < 10; minute++) {
            Check.due("on " + minute, x.on(minute), due[minute]);
        }
    }

    /** byteAt(): "Byte i of the text made last; NONE: there is none such". */
    private static void bytesThatAreAsked() {
        PanSlices x = Check.with("slice a 20 20;");
        for (int i : new int[] {Integer.MIN_VALUE, -1, 0, 1, Integer.MAX_VALUE}) {
            Check.due("byte of no text", x.byteAt(i), -1);
        }
        Check.due("an empty plan", x.write(), 0);
        Check.due("byte of an empty text", x.byteAt(0), -1);
        Check.plan(x, "a top 0 0 1;");
        Check.due("the text is made by write alone", x.byteAt(0), -1);
        Check.due("write", x.write(), 10);
        String due = "a t 0 0 1;";
        for (int i = 0; i < 10; i++) {
            Check.due("byte " + i, x.byteAt(i), due.charAt(i));
        }
        for (int i : new int[] {Integer.MIN_VALUE, -1, 10, 11, 7199, 7200, 7201, Integer.MAX_VALUE}) {
            Check.due("byte " + i, x.byteAt(i), -1);
        }
        x.drop(0);
        Check.due("a shorter text", x.write(), 0);
        Check.due("the longer one is gone", x.byteAt(0), -1);
    }

    /** The longest PLAN there can be is written whole. */
    private static void longestText() {
        PanSlices x = Check.with("slice zbcdey 20 20;pan 4;");
        for (int k = 0; k < 400; k++) {
            x.add(0, k % 2, 240, k % 4, 10 + k % 11);
        }
        Check.due("write", x.write(), 7200);
        boolean alike = true;
        for (int k = 0; k < 400; k++) {
            String due = "zbcdey " + (k % 2 == 0 ? "t" : "u") + " 240 " + k % 4 + " " + (10 + k % 11) + ";";
            for (int i = 0; i < 18; i++) {
                alike &= x.byteAt(18 * k + i) == due.charAt(i);
            }
        }
        Check.due("all bytes", alike, true);
        Check.due("behind it", x.byteAt(7200), -1);
    }

    /** Every minute at which a GO can begin, and all minutes that it can have, by their least digits. */
    private static void numbersWritten() {
        PanSlices x = Check.with("slice a 20 20;pan 4;");
        for (int begin = 0; begin <= 900; begin++) {
            Check.plan(x, "a under 7 " + begin % 4 + " " + (1 + begin % 20) + ";");
            x.later(0, begin - 7);
            Check.dueText("from " + begin, Check.written(x), "a u " + begin + " " + begin % 4 + " " + (1 + begin % 20) + ";");
        }
    }

    // ---- what is made ----

    /** "the greater of the minutes of the longest SLICE and of all minutes by PLACES, cut up". */
    private static void severalOrLongest() {
        // All 20 minutes, on 1 to 4 PLACES, the longest SLICE of 3 to 18.
        for (int places = 1; places <= 4; places++) {
            for (int longest = 10; longest <= 18; longest++) {
                PanSlices x = Check.with("pan " + places + ";slice a " + (longest - 1) + " 1;slice b 1 " + (19 - longest) + ";");
                int byPlaces = (20 + places - 1) / places;
                Check.due("bound 0", x.bound(0), longest);
                Check.due("bound 1", x.bound(1), byPlaces);
                Check.due("several " + places + " " + longest, x.several(), Math.max(longest, byPlaces));
                Check.due("ends", x.ends(), Math.max(longest, byPlaces));
                Check.due("judge", x.judge(), -1);
                Check.due("done", x.done(), 3);
            }
        }
        // Cut up: 8, 9 and 10 minutes by 4.
        for (int all = 8; all <= 13; all++) {
            PanSlices x = Check.with("pan 4;slice a 1 1;slice b 1 1;slice c 1 1;slice d 1 " + (all - 7) + ";");
            Check.due("all " + all, x.bound(1), all <= 8 ? 2 : all <= 12 ? 3 : 4);
        }
    }

    private static void made(String kitchen, int minutes, String plan) {
        PanSlices x = Check.with(kitchen);
        Check.due("several of " + kitchen, x.several(), minutes);
        Check.dueText("several of " + kitchen, Check.written(x), plan);
    }

    /** "in one row, which is cut at every so many minutes". */
    private static void severalCuts() {
        made("pan 1;slice a 2 1;slice b 1 2;", 6, "a t 0 0 2;a u 2 0 1;b t 3 0 1;b u 4 0 2;");
        // Just at a SLICE's end, just at a side's, a minute ahead of it, a minute behind it.
        made("pan 2;slice a 2 2;slice b 2 2;", 4, "a t 0 0 2;a u 2 0 2;b t 0 1 2;b u 2 1 2;");
        made("pan 2;slice a 1 1;slice b 2 2;slice c 1 1;", 4, "a t 0 0 1;a u 1 0 1;b t 2 0 2;b u 0 1 2;c t 2 1 1;c u 3 1 1;");
        made("pan 2;slice a 1 1;slice b 3 2;slice c 1 1;", 5,
            "a t 0 0 1;a u 1 0 1;b t 2 0 3;b u 0 1 2;c t 2 1 1;c u 3 1 1;");
        made("pan 2;slice a 2 1;slice b 3 2;slice c 1 1;", 5,
            "a t 0 0 2;a u 2 0 1;b t 3 0 2;b t 0 1 1;b u 1 1 2;c t 3 1 1;c u 4 1 1;");
        made("pan 2;slice a 1 1;slice b 2 3;slice c 1 2;", 5,
            "a t 0 0 1;a u 1 0 1;b t 2 0 2;b u 4 0 1;b u 0 1 2;c t 2 1 1;c u 3 1 2;");
        // The row is shorter than the PLACES have room.
        made("pan 3;slice a 3 1;slice b 1 1;", 4, "a t 0 0 3;a u 3 0 1;b t 0 1 1;b u 1 1 1;");
        made("pan 4;slice a 20 20 once;", 40, "a t 0 0 20;a u 20 0 20;");
        StringBuilder longest = new StringBuilder("pan 4;");
        for (char c = 'a'; c < 'i'; c++) {
            longest.append("slice ").append(c).append(" 20 20;");
        }
        PanSlices x = Check.with(longest.toString());
        Check.due("the most minutes on 4", x.several(), 80);
        Check.due("goes", x.count(6), 16);
        Check.kitchen(x, longest.substring(6) + "pan 1;");
        Check.due("the most minutes on 1", x.several(), 320);
        Check.due("the last begins", x.go(15, 2), 300);
        Check.kitchen(x, longest.substring(6) + "pan 3;");
        Check.due("cut in two", x.several(), 107);
        Check.due("goes", x.count(6), 18);
    }

    /** "of 4 SLICES at most"; "NONE: no SLICES, more than 4". */
    private static void slicesOfOne() {
        StringBuilder text = new StringBuilder("pan 1;");
        for (int n = 0; n <= 8; n++) {
            PanSlices x = Check.with(text.toString());
            Check.due("one of " + n, x.one(), n == 0 || n > 4 ? -1 : 40 * n);
            Check.due("goes of " + n, x.count(6), n > 4 ? 0 : 2 * n);
            Check.due("undo of " + n, x.undo(), n == 0 || n > 4 ? -1 : 0);
            text.append("slice ").append((char) ('a' + n)).append(" 20 20;");
        }
    }

    /** "its SLICE's other side off and 'rest' kept". */
    private static void restOfOne() {
        for (int rest = 0; rest <= 9; rest++) {
            for (int places = 1; places <= 4; places++) {
                PanSlices x = Check.with("pan " + places + ";rest " + rest + ";slice a 20 20;");
                Check.due("one", x.one(), 40 + rest);
                Check.dueText("plan", Check.written(x), "a t 0 0 20;a u " + (20 + rest) + " 0 20;");
            }
            // One side of b fits into the rest of a, and the other never does with it.
            PanSlices x = Check.with("pan 1;rest " + rest + ";slice a 5 5;slice b 1 1;");
            Check.due("one with b, rest " + rest, x.one(), Math.max(12, 11 + rest));
            Check.due("judge", x.judge(), -1);
            Check.due("done", x.done(), 3);
        }
        // The longest of all: four SLICES of 20 and 20 with a rest of 9, on one PLACE and on four.
        String four = "rest 9;slice a 20 20;slice b 20 20;slice c 20 20;slice d 20 20;";
        Check.due("on one", Check.with("pan 1;" + four).one(), 160);
        Check.due("on two", Check.with("pan 2;" + four).one(), 80);
        Check.due("on three", Check.with("pan 3;" + four).one(), 69);
        Check.due("on four", Check.with("pan 4;" + four).one(), 49);
    }

    /** "of like ones the first (side by side the lesser)"; "each on the least PLACE that is free". */
    private static void oneIsTheFirstOrder() {
        PanSlices x = Check.with("pan 4;slice a 1 1;slice b 1 1;");
        Check.due("one", x.one(), 2);
        Check.dueText("TOP ahead of UNDER", Check.written(x), "a t 0 0 1;b t 0 1 1;a u 1 0 1;b u 1 1 1;");
        x = Check.with("pan 2;slice a 2 1;slice b 1 2;");
        Check.due("one", x.one(), 3);
        Check.dueText("the least PLACE that is free", Check.written(x), "a t 0 0 2;b t 0 1 1;b u 1 1 2;a u 2 0 1;");
        x = Check.with("pan 2;slice a 1 3;slice b 2 2;");
        Check.due("one", x.one(), 4);
        Check.dueText("plan", Check.written(x), "a t 0 0 1;b t 0 1 2;a u 1 0 3;b u 2 1 2;");
    }

    /** "if there is none either, the PLACE waits a minute". */
    private static void mastersWait() {
        for (int top = 1; top <= 20; top++) {
            PanSlices x = Check.with("slice a " + top + " " + (21 - top) + " once;");
            Check.due("one slice", x.masters(), 21);
            Check.dueText("plan", Check.written(x), "a t 0 0 " + top + ";a u " + top + " 1 " + (21 - top) + ";");
        }
        StringBuilder text = new StringBuilder("pan 1;rest 9;");
        for (int n = 1; n <= 8; n++) {
            text.append("slice ").append((char) ('a' + n)).append(" 20 20 once;");
            PanSlices x = Check.with(text.toString());
            Check.due("masters of " + n, x.masters(), n == 1 ? 40 : 20 * n);
            Check.due("goes", x.count(6), 2 * n);
        }
    }

    /** "that with the most minutes for the other PLACE (of like ones the first)". */
    private static void mastersTakeTheFirst() {
        PanSlices x = Check.with("slice a 1 4;slice b 1 5;slice c 1 5;");
        Check.due("masters", x.masters(), 14);
        // b on 0 (of b and c the first); on 1 of a and c, both with a TOP of 1, a; then c, then a's TOP when it is off.
        Check.dueText("plan", Check.written(x), "b t 0 0 1;a u 0 1 4;c t 1 0 1;a t 4 0 1;b u 4 1 5;c u 9 1 5;");
        x = Check.with("slice a 4 1;slice b 5 1;");
        Check.due("masters", x.masters(), 9);
        Check.dueText("plan", Check.written(x), "a t 0 0 4;b u 0 1 1;b t 4 0 5;a u 4 1 1;");
    }

    /** "By a COOK (0 to 2)"; "NONE: no SLICES, no such one". */
    private static void rulesOfCooks() {
        PanSlices x = Check.with("slice a 1 1;");
        for (int rule : new int[] {Integer.MIN_VALUE, -2, -1, 3, 4, Integer.MAX_VALUE}) {
            Check.due("cook " + rule, x.cook(rule), -1);
            Check.due("goes", x.count(6), 0);
            Check.due("undo", x.undo(), -1);
        }
        for (int rule = 0; rule <= 2; rule++) {
            Check.due("cook " + rule, x.cook(rule), 2);
            Check.due("without slices", new PanSlices().cook(rule), -1);
        }
        Check.due("undo", x.undo(), 2);
    }

    /** "whose 'rest' is over (between the last minute of the one side and the first of the other)". */
    private static void restOfCooks() {
        for (int rest = 0; rest <= 9; rest++) {
            PanSlices x = Check.with("pan 4;rest " + rest + ";slice a 3 2 once;slice b 1 1 once;");
            for (int rule = 0; rule <= 2; rule++) {
                Check.due("cook " + rule + " with rest " + rest, x.cook(rule), 5 + rest);
                Check.due("judge", x.judge(), -1);
                Check.due("goes", x.count(6), 4);
                Check.due("b begins its UNDER", x.go(2, 2), 1 + rest);
                Check.due("a begins its UNDER", x.go(3, 2), 3 + rest);
            }
        }
    }

    /** "by 0 the next (all alike); by 1 that with most minutes left in all; by 2 those of which one side is done". */
    private static void likingOfCooks() {
        PanSlices x = Check.with("pan 1;slice a 1 1;slice b 1 2;slice c 1 2;");
        Check.due("cook 0", x.cook(0), 8);
        Check.dueText("the next", Check.written(x), "a t 0 0 1;a u 1 0 1;b t 2 0 1;b u 3 0 2;c t 5 0 1;c u 6 0 2;");
        Check.due("cook 1", x.cook(1), 8);
        // b and c have 3: b; c has 3; then all have 2: a, b, c; then 1 each.
        Check.dueText("the longest", Check.written(x),
            "b t 0 0 1;c t 1 0 1;a t 2 0 1;b u 3 0 1;c u 4 0 1;a u 5 0 1;b u 6 0 1;c u 7 0 1;");
        x = Check.with("pan 1;rest 1;slice a 1 1;slice b 1 1;slice c 1 1;");
        Check.due("cook 2", x.cook(2), 7);
        // In a's rest b begins; then a, the half done, ahead of b, and b ahead of c.
        Check.dueText("the half done", Check.written(x), "a t 0 0 1;b t 1 0 1;a u 2 0 1;b u 3 0 1;c t 4 0 1;c u 6 0 1;");
    }

    /** "what was on in the minute ahead stays, if its side is not done and its SLICE is one of 'once'". */
    private static void onceOfCooks() {
        PanSlices x = Check.with("pan 1;slice a 2 2 once;slice b 3 3;");
        Check.due("cook 1", x.cook(1), 10);
        // b (6, 5), then both have 4: a stays for two minutes, then b has 4 of a's 2.
        Check.dueText("a stays", Check.written(x),
            "b t 0 0 2;a t 2 0 2;b t 4 0 1;b u 5 0 1;a u 6 0 2;b u 8 0 2;");
        x = Check.with("pan 1;slice a 2 2;slice b 3 3;");
        Check.due("cook 1", x.cook(1), 10);
        Check.dueText("a does not stay", Check.written(x),
            "b t 0 0 2;a t 2 0 1;b t 3 0 1;a t 4 0 1;b u 5 0 1;a u 6 0 1;b u 7 0 1;a u 8 0 1;b u 9 0 1;");
    }

    /** "The COOK by whom all are DONE first (of like ones the first)". */
    private static void bestOfAll() {
        Check.due("no slices", new PanSlices().best(), -1);
        Check.due("all alike", Check.with("slice a 1 1;slice b 1 1;").best(), 0);
        Check.due("the longest", Check.with("slice a 1 1;slice b 1 1;slice c 1 1;").best(), 1);
    }

    /** bound(): "NONE: another what". */
    private static void boundsThatAreAsked() {
        PanSlices x = Check.with("slice a 1 2;slice b 4 8;");
        int[] due = {12, 8, 5, 10};
        for (int what = 0; what < 4; what++) {
            Check.due("bound " + what, x.bound(what), due[what]);
        }
        for (int what : new int[] {Integer.MIN_VALUE, -2, -1, 4, 5, Integer.MAX_VALUE}) {
            Check.due("bound " + what, x.bound(what), -1);
        }
    }

    // ---- changes ----

    /** "(a MINUTE 0 to 240, a PLACE, 1 to 20 minutes): its number; NONE: no such ones". */
    private static void addedNumbers() {
        int[] least = {0, 0, 0, 0, 1};
        int[] most = {2, 1, 240, 2, 20};
        int[] odd = {Integer.MIN_VALUE, -1, 0, 1, 2, 3, 4, 7, 8, 19, 20, 21, 239, 240, 241, 256, 512, Integer.MAX_VALUE};
        PanSlices x = Check.with("pan 3;slice a 1 1;slice b 1 1;slice c 1 1;guest g 1 1;");
        int goes = 0;
        for (int which = 0; which < 5; which++) {
            for (int value : odd) {
                int[] a = {1, 1, 100, 1, 10};
                a[which] = value;
                boolean told = value >= least[which] && value <= most[which];
                Check.due("add with " + value + " at " + which, x.add(a[0], a[1], a[2], a[3], a[4]), told ? goes : -1);
                goes += told ? 1 : 0;
                Check.due("goes", x.count(6), goes);
                for (int what = 0; what < 5 && told; what++) {
                    Check.due("go " + what, x.go(goes - 1, what), a[what]);
                }
            }
        }
        for (int places = 1; places <= 4; places++) {
            PanSlices y = Check.with("slice a 1 1;pan " + places + ";");
            Check.due("the last place of " + places, y.add(0, 0, 0, places - 1, 1), 0);
            Check.due("a place more than " + places, y.add(0, 0, 0, places, 1), -1);
        }
        Check.due("without slices", new PanSlices().add(0, 0, 0, 0, 1), -1);
    }

    /** "NONE: .. 400 GOES are there". */
    private static void fourHundredGoes() {
        PanSlices x = Check.with("slice a 20 20;");
        for (int i = 0; i < 400; i++) {
            Check.due("add " + i, x.add(0, 0, i % 241, i % 2, 1 + i % 20), i);
        }
        Check.due("a 401st", x.add(0, 0, 0, 0, 1), -1);
        Check.due("goes", x.count(6), 400);
        Check.due("the last one", x.go(399, 2), 399 % 241);
        Check.due("no 401st", x.go(400, 2), -1);
        Check.due("drop", x.drop(0), true);
        Check.due("all have one number less", x.go(398, 2), 399 % 241);
        Check.due("add again", x.add(0, 1, 7, 0, 1), 399);
        Check.due("a 401st again", x.add(0, 0, 0, 0, 1), -1);
        Check.due("undo add", x.undo(), 7);
        Check.due("undo drop", x.undo(), 6);
        Check.due("all are back", x.count(6), 400);
        Check.due("the first is back", x.go(0, 2), 0);
        Check.due("undo add 399", x.undo(), 5);
        Check.due("goes", x.count(6), 399);
    }

    /** drop(): "those behind have one number less: true; false: no such one". */
    private static void droppedGoes() {
        for (int k = -1; k <= 3; k++) {
            PanSlices x = Check.with("slice a 20 20;");
            Check.plan(x, "a top 0 0 1;a top 1 0 1;a top 2 0 1;");
            boolean is = k >= 0 && k < 3;
            Check.due("drop " + k, x.drop(k), is);
            Check.due("goes", x.count(6), is ? 2 : 3);
            for (int i = 0; i < x.count(6); i++) {
                Check.due("go " + i, x.go(i, 2), is && i >= k ? i + 1 : i);
            }
            Check.due("undo", x.undo(), is ? 1 : 0);
        }
        PanSlices x = Check.with("slice a 20 20;");
        for (int k : new int[] {Integer.MIN_VALUE, -1, 0, 1, 399, 400, Integer.MAX_VALUE}) {
            Check.due("drop " + k + " of none", x.drop(k), false);
        }
    }

    /** later(): "false: no such one, by nothing, ahead of minute 0 or behind 900". */
    private static void laterMinutes() {
        for (int begin : new int[] {0, 1, 100, 240}) {
            int[] by = {-begin - 2, -begin - 1, -begin, -begin + 1, -1, 0, 1, 899 - begin, 900 - begin, 901 - begin, 902 - begin,
                Integer.MIN_VALUE, Integer.MIN_VALUE + 1, Integer.MAX_VALUE - 1, Integer.MAX_VALUE};
            for (int n : by) {
                PanSlices x = Check.with("slice a 20 20;");
                Check.plan(x, "a top 3 0 1;a under " + begin + " 1 20;");
                long to = (long) begin + n;
                boolean may = n != 0 && to >= 0 && to <= 900;
                Check.due(begin + " later by " + n, x.later(1, n), may);
                Check.due("it begins", x.go(1, 2), may ? to : begin);
                Check.due("its minutes stay", x.go(1, 4), 20);
                Check.due("its place stays", x.go(1, 3), 1);
                Check.due("its side stays", x.go(1, 1), 1);
                Check.due("the other stays", x.go(0, 2), 3);
                Check.due("undo", x.undo(), may ? 1 : 0);
            }
        }
        PanSlices x = Check.with("slice a 20 20;");
        Check.plan(x, "a top 3 0 1;");
        for (int k : new int[] {Integer.MIN_VALUE, -1, 1, 2, 400, Integer.MAX_VALUE}) {
            Check.due("later of " + k, x.later(k, 1), false);
        }
        Check.due("from 3 to 900", x.later(0, 897), true);
        Check.due("and no more", x.later(0, 1), false);
        Check.due("from 900 to 0", x.later(0, -900), true);
        Check.due("and no less", x.later(0, -1), false);
    }

    /** early(): "in the first minute in which it is not WRONG by those ahead of it, if that is ahead of its own". */
    private static void earlyMinutes() {
        PanSlices x = Check.with("slice a 20 20;slice b 20 20;");
        for (int begin : new int[] {0, 1, 2, 240}) {
            Check.plan(x, "a top " + begin + " 0 4;");
            Check.due("to minute 0 from " + begin, x.early(), begin > 0 ? 1 : 0);
            Check.due("it begins", x.go(0, 2), 0);
        }
        // Behind a GO of 4 minutes: its own minute is just the first that is free, or behind it, or taken.
        for (int begin = 0; begin <= 7; begin++) {
            Check.plan(x, "a top 0 0 4;b top " + begin + " 0 3;");
            Check.due("early from " + begin, x.early(), begin > 4 ? 1 : 0);
            Check.due("it begins", x.go(1, 2), Math.min(begin, 4));
        }
        // Those ahead count where they are, WRONG or not: a's UNDER is on PLACE 0 in [0, 5).
        Check.plan(x, "a top 0 0 2;a under 0 0 5;b under 100 0 1;");
        Check.due("moves", x.early(), 1);
        Check.due("behind both", x.go(2, 2), 5);
        // A hole of 3 minutes: 3 fit, 4 do not.
        PanSlices y = Check.with("pan 2;slice a 20 20;slice b 20 20;slice c 20 20;");
        for (int n = 1; n <= 5; n++) {
            // a on PLACE 0 in [0, 2), b there from 5 on, since it can't be ahead of its own side on PLACE 1.
            Check.plan(y, "a top 0 0 2;b top 0 1 5;b under 5 0 4;c top 200 0 " + n + ";");
            Check.due("moves", y.early(), 1);
            Check.due("a hole of 3 for " + n, y.go(3, 2), n <= 3 ? 2 : 9);
        }
        y = Check.with("slice a 20 20;slice b 20 20;");
        Check.plan(y, "a top 240 0 20;b top 240 0 20;");
        y.later(0, 660);
        y.later(1, 660);
        Check.due("from 900", y.early(), 2);
        Check.due("to 0", y.go(0, 2), 0);
        Check.due("to 20", y.go(1, 2), 20);
    }

    private static void earlyRest() {
        for (int rest = 0; rest <= 9; rest++) {
            PanSlices x = Check.with("pan 2;rest " + rest + ";slice a 20 20;slice b 20 20;");
            // Its own minute is from one ahead of the rest's end to one behind it.
            for (int begin = 4 + rest - 1; begin <= 4 + rest + 1; begin++) {
                Check.plan(x, "a top 0 0 4;a under " + begin + " 1 2;");
                Check.due("early from " + begin, x.early(), begin > 4 + rest ? 1 : 0);
                Check.due("it begins", x.go(1, 2), Math.min(begin, 4 + rest));
            }
            // Ahead of the other side: 2 minutes and the rest fit just in, or they do not.
            for (int other = rest + 1; other <= rest + 3; other++) {
                Check.plan(x, "b top 0 0 " + other + ";a under " + other + " 0 1;a top 240 1 2;");
                Check.due("early", x.early(), 1);
                Check.due("ahead of " + other, x.go(2, 2), other >= rest + 2 ? 0 : other + 1 + rest);
            }
            // Rest is for the SLICE, not for the PLACE: a hole of 3 minutes takes 3, and just behind another's GO.
            for (int n = 1; n <= 4; n++) {
                Check.plan(x, "b top 0 1 3;b under " + (3 + rest) + " 0 2;a top 240 0 " + n + ";");
                Check.due("early", x.early(), 1);
                Check.due("a hole of " + (3 + rest) + " for " + n, x.go(2, 2), n <= 3 + rest ? 0 : 5 + rest);
            }
        }
    }

    /** PLANS as they are drawn, crowded and with 'rest': each GO by the first minute that is not WRONG, minute by minute. */
    private static void earlyOfDrawnPlans() {
        Random random = new Random(12);
        for (int i = 0; i < 4000; i++) {
            int places = 1 + random.nextInt(2 + i % 3);
            StringBuilder kitchen = new StringBuilder("pan " + places + ";rest " + random.nextInt(i % 2 == 0 ? 3 : 10) + ";");
            StringBuilder plan = new StringBuilder();
            int slices = 1 + random.nextInt(3);
            for (int s = 0; s < slices; s++) {
                kitchen.append("slice ").append((char) ('a' + s)).append(" ").append(3 + random.nextInt(18)).append(" ");
                kitchen.append(3 + random.nextInt(18)).append(random.nextInt(4) == 0 ? " once;" : ";");
            }
            int goes = 2 + random.nextInt(8);
            for (int k = 0; k < goes; k++) {
                plan.append((char) ('a' + random.nextInt(slices))).append(random.nextBoolean() ? " top " : " under ");
                plan.append(random.nextInt(i % 5 == 0 ? 241 : 30)).append(" ").append(random.nextInt(places)).append(" ");
                plan.append(1 + random.nextInt(i % 7 == 0 ? 9 : 3)).append(";");
            }
            PanSlices x = Check.with(kitchen.toString());
            Model model = new Model();
            model.tape = Check.bytes(kitchen.toString());
            model.kitchen();
            model.tape = Check.bytes(plan.toString());
            Check.due("plan", Check.plan(x, plan.toString()), model.plan());
            Check.due("judge of " + kitchen + plan, x.judge(), model.judge());
            Check.due("why of " + kitchen + plan, x.why(), model.why);
            Check.due("early of " + kitchen + plan, x.early(), model.early());
            model.write();
            Check.dueText("early of " + kitchen + plan, Check.written(x), model.text);
        }
        // The PLACE is taken again while the SLICE rests: the rest goes on.
        PanSlices x = Check.with("rest 3;slice a 1 1;slice b 1 1;");
        Check.plan(x, "a top 0 0 1;b top 1 0 1;a under 9 0 1;");
        Check.due("early", x.early(), 1);
        Check.due("behind the rest", x.go(2, 2), 4);
    }

    /** A GO that is WRONG in every minute stays. */
    private static void earlyOfThoseThatCannot() {
        PanSlices x = Check.with("slice a 4 4;slice b 4 4 once;");
        Check.plan(x, "a top 9 0 5;");
        Check.due("too many minutes", x.early(), 0);
        Check.plan(x, "a top 9 0 4;");
        Check.due("just as many", x.early(), 1);
        Check.plan(x, "b top 0 0 1;b top 9 0 1;");
        Check.due("once", x.early(), 0);
        Check.plan(x, "b top 0 0 1;b under 9 0 1;");
        Check.due("the other side", x.early(), 1);
        Check.due("right behind it", x.go(1, 2), 1);
        Check.due("an empty plan", new PanSlices().early(), 0);
    }

    /** undo(): what can come back, and what can't. */
    private static void undoneChanges() {
        PanSlices x = Check.with("slice a 1 1;slice b 1 1;");
        Check.due("nothing yet", x.undo(), -1);
        Check.due("a plan of no LINES is one too", Check.plan(x, ""), 0);
        Check.due("it comes back", x.undo(), 0);
        Check.due("and nothing more", x.undo(), -1);
        Check.plan(x, "a top 5 0 1;");
        int[] done = {x.several(), x.one(), x.masters(), x.cook(0), x.add(0, 0, 0, 0, 1), x.drop(0) ? 1 : 0, x.later(0, 7) ? 1 : 0};
        Check.due("all were done", done.length, 7);
        for (int i = 7; i >= 0; i--) {
            Check.due("undo " + i, x.undo(), i);
        }
        Check.due("no more", x.undo(), -1);
        Check.due("goes", x.count(6), 0);
        Check.plan(x, "a top 5 0 1;");
        Check.due("early", x.early(), 1);
        Check.due("early of nothing", x.early(), 0);
        Check.due("undo early", x.undo(), 1);
        Check.due("it is late again", x.go(0, 2), 5);
        Check.due("undo plan", x.undo(), 0);
        Check.due("no way back to what was undone", x.undo(), -1);
    }

    /** "(8 at most are kept)". */
    private static void eightAreKept() {
        for (int changes = 6; changes <= 20; changes++) {
            PanSlices x = Check.with("slice a 20 20;");
            for (int i = 0; i < changes; i++) {
                x.add(0, 0, i, 0, 1);
            }
            int kept = Math.min(changes, 8);
            for (int i = 1; i <= kept; i++) {
                Check.due("undo " + i + " of " + changes, x.undo(), kept - i);
                Check.due("goes", x.count(6), changes - i);
            }
            Check.due("undo no more of " + changes, x.undo(), -1);
            Check.due("goes stay", x.count(6), changes - kept);
        }
        // Some come back, some are done anew: never more than eight, and always the latest.
        PanSlices x = Check.with("slice a 20 20;");
        for (int i = 0; i < 10; i++) {
            x.add(0, 0, i, 0, 1);
        }
        for (int i = 0; i < 3; i++) {
            x.undo();
        }
        for (int i = 0; i < 4; i++) {
            x.add(0, 1, 100 + i, 0, 1);
        }
        for (int i = 1; i <= 8; i++) {
            Check.due("undo " + i, x.undo(), 8 - i);
            Check.due("goes", x.count(6), 11 - i);
        }
        Check.due("no more", x.undo(), -1);
    }

    /** idle(): "Minutes ahead of the PLAN's end in which nothing is on a PLACE; NONE: no such one". */
    private static void idlePlaces() {
        for (int places = 1; places <= 4; places++) {
            PanSlices x = Check.with("pan " + places + ";slice a 20 20;");
            Check.plan(x, "a top 3 0 2;a under 7 0 1;");
            for (int place : new int[] {Integer.MIN_VALUE, -1, 0, 1, 2, 3, 4, 5, 31, 32, Integer.MAX_VALUE}) {
                boolean is = place >= 0 && place < places;
                Check.due("idle " + place + " of " + places, x.idle(place), is ? place == 0 ? 5 : 8 : -1);
            }
            Check.plan(x, "a top 0 0 1;");
            Check.due("none idle", x.idle(0), 0);
            x.later(0, 1);
            Check.due("one idle", x.idle(0), 1);
            x.later(0, 899);
            Check.due("the most idle", x.idle(0), 900);
            Check.plan(x, "");
            Check.due("no goes", x.idle(places - 1), 0);
        }
    }

    /** forgotten(): "The first side that lacks minutes by the PLAN .. NONE: none does". */
    private static void forgottenSides() {
        StringBuilder text = new StringBuilder();
        for (char c = 'a'; c < 'i'; c++) {
            text.append("slice ").append(c).append(" 2 2;");
        }
        PanSlices x = Check.with(text.toString());
        for (int side = 0; side < 16; side++) {
            Check.due("none of it", x.forgotten(), side);
            x.add(side / 2, side % 2, 0, 0, 1);
            Check.due("half of it", x.forgotten(), side);
            x.add(side / 2, side % 2, 0, 0, side % 3 == 0 ? 2 : 1);
        }
        Check.due("none", x.forgotten(), -1);
        x.drop(31);
        Check.due("the last", x.forgotten(), 15);
        Check.due("no slices", new PanSlices().forgotten(), -1);
    }
}
