/** Promises 1 to 9, 43 (its FAULTS) and 47: the tape, the texts and what a KITCHEN has. */
public final class TextTest {
    private TextTest() { }

    public static void main(String[] args) {
        newObject();
        tape();
        kitchenSettings();
        kitchenParts();
        newKitchenTakesAll();
        kitchenStaysAtAFault();
        tokens();
        faultsOfKitchens();
        faultsOfNames();
        faultsOfTooMany();
        faultsAtTheLimit();
        faultsOfPlans();
        faultsOfSentences();
        sentenceLimits();
        Check.close("TextTest");
    }

    private static void newObject() {
        PanSlices x = new PanSlices();
        int[] due = {2, 0, 10, 0, 0, 0, 0, 0};
        for (int what = 0; what < 8; what++) {
            Check.due("new count " + what, x.count(what), due[what]);
        }
        Check.due("count -1", x.count(-1), PanSlices.NONE);
        Check.due("count 8", x.count(8), PanSlices.NONE);
        Check.due("NONE", PanSlices.NONE, -1);
        Check.due("new fault", x.fault(), 0);
        Check.due("empty kitchen", x.kitchen(), 0);
        Check.due("empty plan", x.plan(), 0);
        Check.due("empty sentence", x.sentence(), -1);
        Check.due("empty sentence's fault", x.fault(), 1);
    }

    private static void tape() {
        PanSlices x = new PanSlices();
        for (int i = 1; i <= 32; i++) {
            Check.due("feed " + i, x.feed(1, 2, 3, 4, 5), 20 * i);
        }
        Check.due("feed above 640", x.feed(1, 2, 3, 4, 5), -1);
        Check.due("bytes", x.count(7), 640);
        Check.due("end 641", x.end(641), false);
        Check.due("end -1", x.end(-1), false);
        Check.due("bytes stay", x.count(7), 640);
        Check.due("end 621", x.end(621), true);
        Check.due("feed at 621", x.feed(1, 2, 3, 4, 5), -1);
        Check.due("end 620", x.end(620), true);
        Check.due("feed at 620", x.feed(1, 2, 3, 4, 5), 640);
        Check.due("end 0", x.end(0), true);
        Check.due("end 1 of 0", x.end(1), false);
        // "pan 3;" by its bytes, the highest first, behind what end() left.
        x.feed(0x70616e20, 0, 0, 0, 0);
        x.end(4);
        x.feed(0x333b0000, 0, 0, 0, 0);
        x.end(6);
        Check.due("kitchen of bytes", x.kitchen(), 1);
        Check.due("places", x.count(0), 3);
        Check.due("tape is empty then", x.count(7), 0);
    }

    private static void kitchenSettings() {
        PanSlices x = Check.with("pan 4;rest 9;cold 99;burn 19 20;");
        Check.due("places", x.count(0), 4);
        Check.due("rest", x.count(1), 9);
        Check.due("cold", x.count(2), 99);
        x = Check.with("pan 1;rest 0;cold 0;burn 0 1;");
        Check.due("places", x.count(0), 1);
        Check.due("rest", x.count(1), 0);
        Check.due("cold", x.count(2), 0);
        Check.due("lines", Check.kitchen(x, "cold 007 ;\npan 01;"), 2);
        Check.due("cold of 007", x.count(2), 7);
        Check.due("places of 01", x.count(0), 1);
    }

    private static void kitchenParts() {
        PanSlices x = Check.with("slice a 1 20;guest g 0 99;sort 9 1;slice abcdef 20 1 once;guest h 240 0;sort 1 99;");
        int[][] slices = {{1, 20, 0}, {20, 1, 1}};
        int[][] guests = {{0, 99}, {240, 0}};
        int[][] sorts = {{9, 1}, {1, 99}};
        for (int i = 0; i < 2; i++) {
            for (int what = 0; what < 3; what++) {
                Check.due("slice " + i + " " + what, x.slice(i, what), slices[i][what]);
            }
            for (int what = 0; what < 2; what++) {
                Check.due("guest " + i + " " + what, x.guest(i, what), guests[i][what]);
                Check.due("sort " + i + " " + what, x.sort(i, what), sorts[i][what]);
            }
        }
        int[][] none = {{-1, 0}, {2, 0}, {0, -1}, {0, 3}, {Integer.MIN_VALUE, 0}, {Integer.MAX_VALUE, 1}};
        for (int[] at : none) {
            Check.throwsNoSuch("slice", () -> x.slice(at[0], at[1]));
            Check.throwsNoSuch("guest", () -> x.guest(at[0], at[1]));
            Check.throwsNoSuch("sort", () -> x.sort(at[0], at[1]));
        }
        Check.throwsNoSuch("guest what 2", () -> x.guest(0, 2));
        Check.throwsNoSuch("sort what 2", () -> x.sort(0, 2));
        Check.due("slices", x.count(3), 2);
        Check.due("guests", x.count(4), 2);
        Check.due("sorts", x.count(5), 2);
    }

    private static void newKitchenTakesAll() {
        PanSlices x = Check.with("pan 4;rest 3;cold 1;slice a 1 1;guest g 1 1;sort 1 1;");
        Check.due("several", x.several(), 2);
        Check.due("sentence", Check.sentence(x, "done"), 1);
        Check.due("said", x.said(-1), 1);
        Check.due("kitchen", Check.kitchen(x, "slice b 2 2;"), 1);
        int[] due = {2, 0, 10, 1, 0, 0, 0, 0};
        for (int what = 0; what < 8; what++) {
            Check.due("count of the new one " + what, x.count(what), due[what]);
        }
        Check.due("no sentence", x.said(-1), -1);
        Check.due("no plan comes back", x.undo(), -1);
        Check.due("the old name is gone", Check.plan(x, "a top 0 0 1;"), -1);
        Check.due("fault", x.fault(), 3);
    }

    private static void kitchenStaysAtAFault() {
        PanSlices x = Check.with("pan 3;slice a 1 1;");
        x.several();
        Check.sentence(x, "done");
        Check.due("kitchen", Check.kitchen(x, "pan 1;slice b 1 1"), -18);
        Check.due("fault", x.fault(), 1);
        Check.due("tape is empty then", x.count(7), 0);
        Check.due("places stay", x.count(0), 3);
        Check.due("goes stay", x.count(6), 2);
        Check.due("sentence stays", x.said(-1), 1);
        Check.due("undo stays", x.undo(), 0);
        Check.due("plan", Check.plan(x, "a top 0 0 1;"), 1);
        Check.due("no fault now", x.fault(), 0);
        Check.due("plan with a fault", Check.plan(x, "a top 0 3 1;"), -9);
        Check.due("fault", x.fault(), 2);
        Check.due("plan stays", x.count(6), 1);
        Check.due("only one came", x.undo(), 0);
        Check.due("sentence with a fault", Check.sentence(x, "once and"), -9);
        Check.due("fault", x.fault(), 1);
        Check.due("old sentence stays", x.said(-1), 0);
    }

    private static void fault(String text, int place, int kind) {
        PanSlices x = new PanSlices();
        Check.due("kitchen " + text, Check.kitchen(x, text), -1 - place);
        Check.due("fault of " + text, x.fault(), kind);
    }

    private static void right(String text, int lines) {
        PanSlices x = new PanSlices();
        Check.due("kitchen " + text, Check.kitchen(x, text), lines);
        Check.due("fault of " + text, x.fault(), 0);
    }

    private static void tokens() {
        right("", 0);
        right(" \n ", 0);
        right("pan 1;", 1);
        right("  pan\n1\n;\nrest 1;", 2);
        right("slice abcdef 1 1;", 1);
        fault("slice abcdefg 1 1;", 6, 1);
        fault("slice a1 1 1;", 6, 1);
        fault("slice 1a 1 1;", 6, 1);
        fault("slice a 1once;", 8, 1);
        fault("pan1;", 0, 1);
        fault("cold 0001;", 5, 1);
        fault("cold 1000;", 5, 1);
        fault("cold 100;", 5, 2);
        fault("pan\t1;", 3, 1);
        fault("Pan 1;", 0, 1);
        fault("pan 1.", 5, 1);
        fault("pan \u00e9;", 4, 1);
        fault("pan \0;", 4, 1);
        fault("pan <;", 4, 1);
    }

    private static void faultsOfKitchens() {
        fault(";", 0, 1);
        fault("pan 1;;", 6, 1);
        fault("toast 1;", 0, 1);
        fault("top 1;", 0, 1);
        fault("1;", 0, 1);
        fault("pan;", 3, 1);
        fault("pan", 3, 1);
        fault("pan 2", 5, 1);
        fault("pan 2 2;", 6, 1);
        fault("pan 0;", 4, 2);
        fault("pan 5;", 4, 2);
        fault("rest 10;", 5, 2);
        fault("burn 1;", 6, 1);
        fault("burn 20 20;", 5, 2);
        fault("burn 0 0;", 7, 2);
        fault("burn 0 21;", 7, 2);
        fault("burn 5 5;", 7, 2);
        right("burn 5 6;", 1);
        fault("slice a 0 1;", 8, 2);
        fault("slice a 21 1;", 8, 2);
        fault("slice a 1 0;", 10, 2);
        fault("slice a 1;", 9, 1);
        fault("slice 1 1;", 6, 1);
        fault("slice a 1 1 twice;", 12, 1);
        fault("slice a 1 1 once once;", 17, 1);
        fault("guest g 241 1;", 8, 2);
        fault("guest g 1 100;", 10, 2);
        fault("guest g 1 1 once;", 12, 1);
        fault("sort 0 1;", 5, 2);
        fault("sort 10 1;", 5, 2);
        fault("sort 1 0;", 7, 2);
        fault("sort a 1;", 5, 1);
    }

    private static void faultsOfNames() {
        String[] own = {"pan", "rest", "cold", "burn", "slice", "once", "guest", "sort", "top", "under", "or", "and", "not",
            "done", "after", "goes", "ends"};
        for (String word : own) {
            fault("slice " + word + " 1 1;", 6, 1);
            fault("guest " + word + " 1 1;", 6, 1);
        }
        right("slice t 1 1;slice u 1 1;", 2);
        fault("slice a 1 1;slice a 1 1;", 18, 3);
        fault("slice a 1 1;guest a 1 1;", 18, 3);
        fault("guest a 1 1;guest a 1 1;", 18, 3);
        fault("guest a 1 1;slice a 1 1;", 18, 3);
        right("slice a 1 1;slice aa 1 1;guest aaa 1 1;", 3);
        fault("pan 1;pan 1;", 6, 3);
        fault("rest 1;pan 1;rest 11;", 13, 3);
        fault("cold 1;cold 1;", 7, 3);
        fault("burn 1 2;burn 1 2;", 9, 3);
    }

    private static void faultsOfTooMany() {
        StringBuilder slices = new StringBuilder();
        StringBuilder guests = new StringBuilder();
        for (int i = 0; i < 8; i++) {
            slices.append("slice s").append((char) ('a' + i)).append(" 1 1;");
            guests.append("guest g").append((char) ('a' + i)).append(" 1 1;");
        }
        String sorts = "sort 1 1;".repeat(5);
        right(slices.toString() + guests + sorts, 21);
        fault(slices + "slice ?", slices.length(), 4);
        fault(guests + "guest", guests.length(), 4);
        fault(sorts + "sort 0", sorts.length(), 4);
        fault(guests + "slice sa 1 1;guest", guests.length() + 13, 4);
    }

    private static void faultsAtTheLimit() {
        String pan = "pan 1;";
        right(pan + " ".repeat(594), 1);
        fault(pan + " ".repeat(595), 600, 1);
        fault(pan + " ".repeat(634), 600, 1);
        fault(" ".repeat(640), 600, 1);
        right(" ".repeat(594) + pan, 1);
        fault(" ".repeat(595) + pan, 600, 1);
        // The NUMBER begins at 599 and is read whole: 11 is above 9.
        fault(" ".repeat(594) + "rest 11;", 599, 2);
        fault(" ".repeat(594) + "rest 1 ;", 600, 1);
        fault(" ".repeat(597) + "slice a 1 1;", 600, 1);
        fault(" ".repeat(597) + "slicer a 1 1;", 597, 1);
        fault(" ".repeat(597) + "slices1 a 1 1;", 597, 1);
        fault(" ".repeat(600) + "?", 600, 1);
        fault(" ".repeat(590) + "?" + " ".repeat(20), 590, 1);
    }

    private static void planFault(String kitchen, String text, int place, int kind) {
        PanSlices x = Check.with(kitchen);
        Check.due("plan " + text, Check.plan(x, text), -1 - place);
        Check.due("fault of plan " + text, x.fault(), kind);
        Check.due("goes of plan " + text, x.count(6), 0);
    }

    private static void faultsOfPlans() {
        String kitchen = "pan 3;slice a 1 1;slice b 1 1;guest g 1 1;";
        planFault(kitchen, "c top 0 0 1;", 0, 3);
        planFault(kitchen, "g top 0 0 1;", 0, 3);
        planFault(kitchen, "top top 0 0 1;", 0, 1);
        planFault(kitchen, "1 top 0 0 1;", 0, 1);
        planFault(kitchen, "a side 0 0 1;", 2, 1);
        planFault(kitchen, "a t 0 0 1;", 2, 1);
        planFault(kitchen, "a top 241 0 1;", 6, 2);
        planFault(kitchen, "a top 0 3 1;", 8, 2);
        planFault(kitchen, "a top 0 0 0;", 10, 2);
        planFault(kitchen, "a top 0 0 21;", 10, 2);
        planFault(kitchen, "a top 0 0;", 9, 1);
        planFault(kitchen, "a top 0 0 1", 11, 1);
        planFault(kitchen, "a top 0 0 1;" + " ".repeat(600), 600, 1);
        PanSlices x = Check.with(kitchen);
        Check.due("plan at its edges", Check.plan(x, "b under 240 2 20 ;\na top 0 0 1;"), 2);
        String line = "a top 0 0 1;";
        Check.due("30 lines", Check.plan(x, line.repeat(30)), 30);
        Check.due("31 lines", Check.plan(x, line.repeat(31)), -1 - 360);
        Check.due("fault of 31 lines", x.fault(), 4);
        Check.due("31st of no slice", Check.plan(x, line.repeat(30) + "q"), -1 - 360);
        Check.due("its fault", x.fault(), 3);
        Check.due("31st of no word", Check.plan(x, line.repeat(30) + "7"), -1 - 360);
        Check.due("its fault", x.fault(), 1);
        Check.due("31st of a word", Check.plan(x, line.repeat(30) + "once"), -1 - 360);
        Check.due("its fault", x.fault(), 1);
        Check.due("empty plan", Check.plan(x, ""), 0);
        Check.due("its goes", x.count(6), 0);
    }

    private static void sentenceFault(String text, int place, int kind) {
        PanSlices x = Check.with("slice a 1 1;guest g 1 1;");
        Check.due("sentence " + text, Check.sentence(x, text), -1 - place);
        Check.due("fault of sentence " + text, x.fault(), kind);
        Check.due("no sentence " + text, x.said(-1), -1);
    }

    private static void faultsOfSentences() {
        sentenceFault("", 0, 1);
        sentenceFault("  ", 2, 1);
        sentenceFault("or", 0, 1);
        sentenceFault("a", 0, 1);
        sentenceFault("once once", 5, 1);
        sentenceFault("once;", 4, 1);
        sentenceFault("once or", 7, 1);
        sentenceFault("once and or", 9, 1);
        sentenceFault("not", 3, 1);
        sentenceFault("(once", 5, 1);
        sentenceFault("(once))", 6, 1);
        sentenceFault("()", 1, 1);
        sentenceFault("after", 5, 1);
        sentenceFault("after b", 6, 3);
        sentenceFault("after g", 6, 3);
        sentenceFault("after top", 6, 1);
        sentenceFault("top 1", 4, 1);
        sentenceFault("top (1", 4, 1);
        sentenceFault("top<a", 4, 1);
        sentenceFault("top<1000", 4, 1);
        sentenceFault("top<1and once", 4, 1);
        sentenceFault("slice", 0, 1);
        sentenceFault("once" + " ".repeat(197), 200, 1);
        sentenceFault(" ".repeat(198) + "once", 200, 1);
        sentenceFault(" ".repeat(198) + "oncer", 198, 1);
    }

    private static void sentenceLimits() {
        PanSlices x = Check.with("slice a 1 1;guest g 1 1;");
        Check.due("200 bytes", Check.sentence(x, "once" + " ".repeat(196)), 1);
        Check.due("20 ones", Check.sentence(x, "once or ".repeat(19) + "done"), 20);
        Check.due("21 ones", Check.sentence(x, "once or ".repeat(20) + "done"), -1 - 160);
        Check.due("fault of 21 ones", x.fault(), 4);
        Check.due("21st that is none", Check.sentence(x, "once or ".repeat(20) + "a"), -1 - 160);
        Check.due("its fault", x.fault(), 1);
        Check.due("21 with not", Check.sentence(x, "once or ".repeat(19) + "not done"), -1 - 156);
        Check.due("20 with brackets", Check.sentence(x, "once or ".repeat(18) + "(done)"), 20);
        Check.due("8 within", Check.sentence(x, "not ".repeat(7) + "once"), 8);
        Check.due("9 within", Check.sentence(x, "not ".repeat(8) + "once"), -1 - 32);
        Check.due("fault of 9 within", x.fault(), 4);
        Check.due("8 brackets", Check.sentence(x, "(".repeat(7) + "once" + ")".repeat(7)), 8);
        Check.due("9 brackets", Check.sentence(x, "(".repeat(8) + "once" + ")".repeat(8)), -1 - 8);
        Check.due("ninth is a bracket", Check.sentence(x, "(".repeat(9) + "once"), -1 - 8);
        Check.due("ninth is none", Check.sentence(x, "(".repeat(8) + ")"), -1 - 8);
        Check.due("its fault", x.fault(), 1);
        Check.due("side by side at 8", Check.sentence(x, "(".repeat(7) + "once and done or once" + ")".repeat(7)), 10);
        Check.due("all kinds", Check.sentence(x,
            "not once and(done or after a)or top<1\nand under=2 and goes>3 and ends<999"), 9);
        Check.due("no fault", x.fault(), 0);
    }
}
