/** Promises 10 to 18 and 25 to 31: what a PLAN says, and its changes. */
public final class PlanTest {
    private static final String KITCHEN = "pan 3;rest 2;slice a 4 3;slice b 2 2 once;slice long 20 20;";

    private PlanTest() { }

    public static void main(String[] args) {
        wrongGoes();
        leastOfKinds();
        whyAhead();
        gosOfAPlan();
        leftEndsDoneOn();
        texts();
        adding();
        mostGoes();
        dropping();
        movingLater();
        movingEarly();
        earlyKeepsRest();
        undoing();
        undoKeepsEight();
        idleMinutes();
        forgottenSides();
        Check.close("PlanTest");
    }

    private static void judged(String plan, int go, int kind) {
        PanSlices x = Check.with(KITCHEN);
        Check.due("lines of " + plan, Check.plan(x, plan) >= 0, true);
        Check.due("judge " + plan, x.judge(), go);
        Check.due("why " + plan, x.why(), kind);
    }

    private static void wrongGoes() {
        judged("", -1, 0);
        judged("a top 0 0 4;a under 6 1 3;b top 4 0 2;", -1, 0);
        // 1: the PLACE; the minute behind is free.
        judged("a top 0 0 4;b top 3 0 1;", 1, 1);
        judged("a top 3 0 1;b top 2 0 2;", 1, 1);
        judged("a top 0 0 4;b top 4 0 1;", -1, 0);
        // 2: the SLICE, by its other side and by its own.
        judged("a top 0 0 4;a under 3 1 1;", 1, 2);
        judged("a top 0 0 2;a top 1 1 1;", 1, 2);
        judged("a top 0 0 2;a top 2 1 2;", -1, 0);
        // 3: too many minutes, all GOES ahead counted.
        judged("a top 0 0 5;", 0, 3);
        judged("a top 0 0 2;a top 2 0 2;a top 9 0 1;", 2, 3);
        // 4: once, and also if the GO ahead is the later one.
        judged("b top 0 0 1;b top 1 0 1;", 1, 4);
        judged("b top 9 0 1;b top 1 0 1;", 1, 4);
        // 5: rest ahead and behind.
        judged("a top 0 0 4;a under 5 0 3;", 1, 5);
        judged("a top 0 0 4;a under 6 0 3;", -1, 0);
        judged("a under 6 0 3;a top 1 1 4;", 1, 5);
        judged("a under 6 0 3;a top 0 1 4;", -1, 0);
        judged("a top 0 0 1;a under 3 0 3;a top 7 0 3;", 2, 5);
    }

    private static void leastOfKinds() {
        // By one GO ahead 2 and 3, by another 1.
        judged("a top 0 0 4;b top 2 1 2;a top 2 1 1;", 2, 1);
        judged("b top 0 0 1;b top 0 1 2;", 1, 2);
        judged("b top 0 0 1;b top 2 1 2;", 1, 3);
        judged("b top 0 0 1;b under 3 0 2;b top 1 1 1;", 2, 4);
        // The first GO that is WRONG counts, not the worst.
        judged("a top 0 0 4;a under 4 0 3;b top 0 0 1;", 1, 5);
    }

    private static void whyAhead() {
        PanSlices x = new PanSlices();
        Check.due("why ahead of any", x.why(), -1);
        Check.kitchen(x, KITCHEN);
        Check.plan(x, "a top 0 0 5;");
        Check.due("why without judge", x.why(), -1);
        x.judge();
        Check.plan(x, "a top 0 0 4;");
        Check.due("why stays", x.why(), 3);
        Check.kitchen(x, "");
        Check.due("why stays in a new kitchen", x.why(), 3);
        x.judge();
        Check.due("why", x.why(), 0);
    }

    private static void gosOfAPlan() {
        PanSlices x = Check.with(KITCHEN);
        Check.plan(x, "a top 1 0 2;long under 240 2 20;");
        int[][] due = {{0, 0, 1, 0, 2}, {2, 1, 240, 2, 20}};
        for (int k = 0; k < 2; k++) {
            for (int what = 0; what < 5; what++) {
                Check.due("go " + k + " " + what, x.go(k, what), due[k][what]);
            }
            Check.due("go what -1", x.go(k, -1), -1);
            Check.due("go what 5", x.go(k, 5), -1);
        }
        Check.due("go 2", x.go(2, 0), -1);
        Check.due("go -1", x.go(-1, 0), -1);
    }

    private static void leftEndsDoneOn() {
        PanSlices x = Check.with(KITCHEN);
        Check.due("ends without goes", x.ends(), 0);
        Check.due("left", x.left(2, 1), 20);
        Check.plan(x, "a top 0 0 4;a under 240 2 5;b top 3 0 1;long top 3 1 20;");
        Check.due("left 0", x.left(0, 0), 0);
        Check.due("left below 0", x.left(0, 1), -2);
        Check.due("left of b", x.left(1, 0), 1);
        Check.due("left of b's under", x.left(1, 1), 2);
        Check.due("ends", x.ends(), 245);
        Check.due("done with too many", x.done(), 1);
        Check.due("on 0", x.on(0), 1);
        Check.due("on 3", x.on(3), 7);
        Check.due("on 4", x.on(4), 4);
        Check.due("on 22", x.on(22), 4);
        Check.due("on 23", x.on(23), 0);
        Check.due("on 999", x.on(999), 0);
        Check.due("on 1000", x.on(1000), -1);
        Check.due("on -1", x.on(-1), -1);
        int[][] none = {{-1, 0}, {3, 0}, {0, -1}, {0, 2}};
        for (int[] at : none) {
            Check.throwsNoSuch("left", () -> x.left(at[0], at[1]));
        }
    }

    private static void texts() {
        PanSlices x = Check.with(KITCHEN);
        Check.due("byteAt ahead of any", x.byteAt(0), -1);
        Check.plan(x, "a top 0 0 4;long under 240 2 20;b top 10 1 1;");
        Check.dueText("write", Check.written(x), "a t 0 0 4;long u 240 2 20;b t 10 1 1;");
        Check.due("bytes", x.write(), 37);
        Check.due("byteAt 36", x.byteAt(36), ';');
        Check.due("byteAt 37", x.byteAt(37), -1);
        Check.due("byteAt -1", x.byteAt(-1), -1);
        Check.plan(x, "");
        Check.due("the text stays", x.byteAt(0), 'a');
        Check.kitchen(x, "");
        Check.due("the text stays in a new kitchen", x.byteAt(10), 'l');
        Check.due("write nothing", x.write(), 0);
        Check.due("no text now", x.byteAt(0), -1);
        PanSlices y = Check.with("slice z 20 20;");
        y.add(0, 0, 240, 0, 20);
        y.later(0, 660);
        Check.dueText("write 900", Check.written(y), "z t 900 0 20;");
        Check.plan(y, "z top 9 0 9;z top 10 0 10;z top 99 0 1;z top 100 0 1;z under 109 1 19;");
        Check.dueText("write 100", Check.written(y), "z t 9 0 9;z t 10 0 10;z t 99 0 1;z t 100 0 1;z u 109 1 19;");
    }

    private static void adding() {
        PanSlices x = Check.with(KITCHEN);
        int[][] none = {{-1, 0, 0, 0, 1}, {3, 0, 0, 0, 1}, {0, -1, 0, 0, 1}, {0, 2, 0, 0, 1}, {0, 0, -1, 0, 1},
            {0, 0, 241, 0, 1}, {0, 0, 0, -1, 1}, {0, 0, 0, 3, 1}, {0, 0, 0, 0, 0}, {0, 0, 0, 0, 21}};
        for (int[] a : none) {
            Check.due("add", x.add(a[0], a[1], a[2], a[3], a[4]), -1);
        }
        Check.due("nothing to undo", x.undo(), -1);
        Check.due("add first", x.add(0, 0, 0, 0, 1), 0);
        Check.due("add at the edges", x.add(2, 1, 240, 2, 20), 1);
        Check.due("add a wrong one", x.add(0, 0, 0, 0, 20), 2);
        Check.due("goes", x.count(6), 3);
        Check.due("go 1 2", x.go(1, 2), 240);
        Check.due("judge", x.judge(), 2);
    }

    private static void mostGoes() {
        PanSlices x = Check.with("slice abcdef 20 20;");
        for (int i = 0; i < 400; i++) {
            Check.due("add " + i, x.add(0, 1, 240, 1, 20), i);
        }
        Check.due("add 400", x.add(0, 1, 240, 1, 20), -1);
        Check.due("goes", x.count(6), 400);
        Check.due("undo the last that was done", x.undo(), 7);
        Check.due("goes", x.count(6), 399);
        Check.due("add 399", x.add(0, 1, 240, 1, 20), 399);
        Check.due("write", x.write(), 400 * 18);
        Check.due("last byte", x.byteAt(7199), ';');
        Check.due("judge", x.judge(), 1);
        Check.due("early", x.early(), 1);
        Check.due("drop", x.drop(399), true);
        Check.due("drop", x.drop(399), false);
        Check.due("drop first", x.drop(0), true);
        Check.due("idle", x.idle(1), 240);
        Check.due("left", x.left(0, 1), 20 - 398 * 20);
        Check.due("undo", x.undo(), 7);
    }

    private static void dropping() {
        PanSlices x = Check.with(KITCHEN);
        Check.due("drop nothing", x.drop(0), false);
        Check.plan(x, "a top 0 0 1;b top 1 0 1;long top 2 0 1;");
        Check.due("drop -1", x.drop(-1), false);
        Check.due("drop 3", x.drop(3), false);
        Check.due("drop 1", x.drop(1), true);
        Check.dueText("plan", Check.written(x), "a t 0 0 1;long t 2 0 1;");
        Check.due("drop the last", x.drop(1), true);
        Check.due("drop the first", x.drop(0), true);
        Check.due("goes", x.count(6), 0);
        Check.due("undo", x.undo(), 3);
        Check.due("undo", x.undo(), 2);
        Check.due("undo", x.undo(), 1);
        Check.dueText("plan", Check.written(x), "a t 0 0 1;b t 1 0 1;long t 2 0 1;");
    }

    private static void movingLater() {
        PanSlices x = Check.with(KITCHEN);
        Check.plan(x, "a top 5 0 1;b under 7 1 2;");
        Check.due("no such", x.later(2, 1), false);
        Check.due("no such", x.later(-1, 1), false);
        Check.due("by nothing", x.later(0, 0), false);
        Check.due("ahead of 0", x.later(0, -6), false);
        Check.due("behind 900", x.later(0, 896), false);
        Check.due("far", x.later(0, Integer.MAX_VALUE), false);
        Check.due("far back", x.later(0, Integer.MIN_VALUE), false);
        Check.due("only the plan can come back", x.undo(), 0);
        Check.plan(x, "a top 5 0 1;b under 7 1 2;");
        Check.due("to 900", x.later(0, 895), true);
        Check.due("go", x.go(0, 2), 900);
        Check.due("ends", x.ends(), 901);
        Check.due("to 0", x.later(0, -900), true);
        Check.dueText("plan", Check.written(x), "a t 0 0 1;b u 7 1 2;");
        Check.due("undo", x.undo(), 2);
    }

    private static void movingEarly() {
        PanSlices x = Check.with("pan 2;slice a 4 4;slice b 4 4;slice c 4 4 once;");
        Check.due("nothing", x.early(), 0);
        Check.plan(x, "a top 3 0 2;b top 9 0 2;a under 9 1 1;b top 20 1 2;c top 3 1 4;c top 30 0 1;a top 40 0 3;");
        // a top to 0, b top behind it on PLACE 0, a under behind a's top, b top ahead of b's on PLACE 1;
        // c can't be ahead of 3 on PLACE 1, is on once, and a would have too many: these stay.
        Check.due("early", x.early(), 4);
        Check.dueText("plan", Check.written(x),
            "a t 0 0 2;b t 2 0 2;a u 2 1 1;b t 0 1 2;c t 3 1 4;c t 30 0 1;a t 40 0 3;");
        Check.due("early again", x.early(), 0);
        Check.due("undo", x.undo(), 1);
        Check.due("go", x.go(0, 2), 3);
        Check.plan(x, "a top 0 0 4;b top 2 0 4;");
        Check.due("wrong, but never right ahead", x.early(), 0);
        Check.plan(x, "a top 6 0 4;b top 7 0 4;");
        Check.due("a hole ahead", x.early(), 2);
        Check.dueText("plan", Check.written(x), "a t 0 0 4;b t 4 0 4;");
        Check.plan(x, "a top 0 0 2;a under 5 0 2;b top 6 0 2;b under 9 0 4;");
        x.early();
        Check.dueText("gaps filled", Check.written(x), "a t 0 0 2;a u 2 0 2;b t 4 0 2;b u 6 0 4;");
    }

    private static void earlyKeepsRest() {
        PanSlices x = Check.with("pan 2;rest 3;slice a 4 4;slice b 20 20;");
        Check.plan(x, "a top 0 0 4;a under 20 1 4;");
        Check.due("early", x.early(), 1);
        Check.due("behind the rest", x.go(1, 2), 7);
        Check.plan(x, "a under 7 0 2;b top 0 1 1;a top 30 1 3;");
        Check.due("early", x.early(), 2);
        Check.dueText("plan", Check.written(x), "a u 0 0 2;b t 0 1 1;a t 5 1 3;");
        Check.plan(x, "b top 0 0 9;a under 9 0 2;a top 30 1 3;");
        Check.due("early", x.early(), 1);
        Check.due("just ahead of the rest", x.go(2, 2), 0);
        Check.plan(x, "b top 0 0 8;a under 8 0 2;b top 0 1 3;a top 30 1 3;");
        Check.due("early", x.early(), 1);
        Check.due("b stays", x.go(2, 2), 0);
        Check.due("no room ahead of the rest", x.go(3, 2), 13);
    }

    private static void undoing() {
        PanSlices x = Check.with("slice a 1 1;");
        Check.due("undo nothing", x.undo(), -1);
        Check.due("several", x.several(), 2);
        Check.due("one", x.one(), 2);
        Check.due("masters", x.masters(), 2);
        Check.due("cook", x.cook(0), 2);
        Check.due("cook that is none", x.cook(3), -1);
        Check.due("best", x.best(), 0);
        Check.due("plan", Check.plan(x, "a top 3 0 1;"), 1);
        Check.due("plan with a fault", Check.plan(x, "a top"), -6);
        Check.due("early", x.early(), 1);
        Check.due("early 0", x.early(), 0);
        Check.due("later", x.later(0, 1), true);
        Check.due("drop", x.drop(0), true);
        int[] goes = {1, 1, 1, 2, 2, 2, 2, 0};
        for (int i = 0; i < 8; i++) {
            Check.due("undo " + i, x.undo(), 7 - i);
            Check.due("goes " + i, x.count(6), goes[i]);
        }
        Check.due("undo no more", x.undo(), -1);
    }

    private static void undoKeepsEight() {
        PanSlices x = Check.with("slice a 20 20;");
        for (int i = 0; i < 11; i++) {
            x.add(0, 0, i, 0, 1);
        }
        for (int i = 0; i < 8; i++) {
            Check.due("undo " + i, x.undo(), 7 - i);
            Check.due("goes " + i, x.count(6), 10 - i);
        }
        Check.due("undo no more", x.undo(), -1);
        Check.due("goes", x.count(6), 3);
        x.add(0, 0, 0, 0, 1);
        Check.due("undo anew", x.undo(), 0);
    }

    private static void idleMinutes() {
        PanSlices x = Check.with(KITCHEN);
        Check.due("idle without goes", x.idle(0), 0);
        Check.due("idle -1", x.idle(-1), -1);
        Check.due("idle 3", x.idle(3), -1);
        Check.plan(x, "a top 2 0 4;b top 3 0 2;long top 20 1 5;");
        Check.due("idle 0, two at once count once", x.idle(0), 25 - 4);
        Check.due("idle 1", x.idle(1), 20);
        Check.due("idle 2", x.idle(2), 25);
    }

    private static void forgottenSides() {
        PanSlices x = Check.with(KITCHEN);
        Check.due("forgotten", x.forgotten(), 0);
        Check.plan(x, "a top 0 0 9;");
        Check.due("forgotten", x.forgotten(), 1);
        Check.plan(x, "a top 0 0 9;a under 0 0 3;b under 0 0 2;");
        Check.due("forgotten", x.forgotten(), 2);
        Check.plan(x, "a top 0 0 4;a under 0 0 3;b under 0 0 2;b top 0 0 2;long top 0 0 20;long under 0 0 19;");
        Check.due("forgotten", x.forgotten(), 5);
        x.add(2, 1, 0, 0, 1);
        Check.due("none forgotten", x.forgotten(), -1);
        Check.due("no slices", new PanSlices().forgotten(), -1);
    }
}
