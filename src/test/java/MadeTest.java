import java.util.Random;

/** Promises 19 to 24: PLANS that are made. */
public final class MadeTest {
    private MadeTest() { }

    public static void main(String[] args) {
        withoutSlices();
        severalGoes();
        oneGo();
        oneGoTies();
        oneGoWithRest();
        oneGoByOrders();
        twoMasters();
        mastersAreShortest();
        cooks();
        cooksOfOnce();
        cooksWithRest();
        cooksKeepTheRules();
        cooksByTheModel();
        cookOfTheHalfDone();
        bestCook();
        bounds();
        Check.close("MadeTest");
    }

    private static void withoutSlices() {
        PanSlices x = Check.with("pan 1;guest g 1 1;sort 1 1;");
        Check.due("several", x.several(), -1);
        Check.due("one", x.one(), -1);
        Check.due("masters", x.masters(), -1);
        Check.due("cook", x.cook(0), -1);
        Check.due("best", x.best(), -1);
        Check.due("undo", x.undo(), -1);
    }

    private static void severalGoes() {
        PanSlices x = Check.with("slice a 1 1;slice b 1 1;slice c 1 1;");
        Check.due("three slices, two to a pan", x.several(), 3);
        Check.dueText("plan", Check.written(x), "a t 0 0 1;a u 1 0 1;b t 2 0 1;b u 0 1 1;c t 1 1 1;c u 2 1 1;");
        x = Check.with("pan 4;slice a 20 20;slice b 1 1;");
        Check.due("the longest slice", x.several(), 40);
        Check.dueText("plan", Check.written(x), "a t 0 0 20;a u 20 0 20;b t 0 1 1;b u 1 1 1;");
        x = Check.with("pan 2;rest 9;slice a 4 3 once;slice b 5 5 once;");
        Check.due("once and rest count nothing", x.several(), 10);
        Check.due("8.5 is cut up", x.bound(1), 9);
        x = Check.with("pan 3;slice a 7 2;slice b 7 2;slice c 7 2;slice d 7 2;");
        Check.due("sides cut in two", x.several(), 12);
        Check.dueText("plan", Check.written(x),
            "a t 0 0 7;a u 7 0 2;b t 9 0 3;b t 0 1 4;b u 4 1 2;c t 6 1 6;c t 0 2 1;c u 1 2 2;d t 3 2 7;d u 10 2 2;");
    }

    private static void oneGo() {
        PanSlices x = Check.with("slice a 1 1;slice b 1 1;slice c 1 1;");
        Check.due("three slices", x.one(), 3);
        // a, then b under beside c under: the first order that ends at 3.
        Check.dueText("plan", Check.written(x), "a t 0 0 1;b t 0 1 1;a u 1 0 1;c t 1 1 1;b u 2 0 1;c u 2 1 1;");
        x = Check.with("slice a 2 3;slice b 1 4;slice c 5 1;slice d 1 1;slice e 1 1;");
        Check.plan(x, "a top 0 0 1;");
        Check.due("five slices", x.one(), -1);
        Check.due("the plan stays", x.count(6), 1);
        x = Check.with("pan 1;slice a 2 3 once;");
        Check.due("one slice", x.one(), 5);
        Check.dueText("plan", Check.written(x), "a t 0 0 2;a u 2 0 3;");
    }

    private static void oneGoTies() {
        // With a PLACE for each any order ENDS alike; the first is taken.
        PanSlices x = Check.with("pan 4;slice a 3 1;slice b 1 3;slice c 2 2;slice d 1 1;");
        Check.due("minutes", x.one(), 4);
        Check.dueText("plan", Check.written(x),
            "a t 0 0 3;b t 0 1 1;c t 0 2 2;d t 0 3 1;b u 1 1 3;d u 1 3 1;c u 2 2 2;a u 3 0 1;");
        // Found by the random runs: of orders that end alike, the first, though others come later.
        x = Check.with("pan 2;rest 8;slice a 6 6;slice b 3 3;slice c 6 6;slice d 1 2;");
        Check.due("minutes", x.one(), 23);
        Check.dueText("plan", Check.written(x),
            "a t 0 0 6;b t 0 1 3;c t 3 1 6;d t 6 0 1;b u 11 0 3;a u 14 0 6;d u 15 1 2;c u 17 1 6;");
    }

    private static void oneGoWithRest() {
        PanSlices x = Check.with("pan 2;rest 5;slice a 2 2;");
        Check.due("minutes", x.one(), 9);
        Check.dueText("plan", Check.written(x), "a t 0 0 2;a u 7 0 2;");
        // b under is set last and comes on ahead of b top, in the rest of a.
        x = Check.with("pan 1;rest 3;slice a 1 1;slice b 4 1;");
        Check.due("minutes", x.one(), 9);
        Check.dueText("plan", Check.written(x), "a t 0 0 1;b u 1 0 1;a u 4 0 1;b t 5 0 4;");
        x = Check.with("pan 1;rest 3;slice a 1 1;slice b 2 2;");
        // b top, a top, two minutes of nothing, b under at 5 (its rest is over), a under at 7.
        Check.due("minutes", x.one(), 8);
        Check.due("judge", x.judge(), -1);
        Check.due("done", x.done(), 3);
    }

    /** All orders by the Model, with one to four SLICES. */
    private static void oneGoByOrders() {
        Random random = new Random(7);
        for (int i = 0; i < 900; i++) {
            StringBuilder t = new StringBuilder();
            t.append("pan ").append(1 + random.nextInt(i % 2 == 0 ? 2 : 4)).append(";rest ").append(random.nextInt(i % 5 == 0 ? 10 : 4));
            t.append(";");
            int slices = i % 30 == 0 ? 4 : 1 + random.nextInt(3);
            int most = i % 3 == 0 ? 20 : i % 3 == 1 ? 2 : 6;
            for (int s = 0; s < slices; s++) {
                t.append("slice ").append((char) ('a' + s)).append(" ").append(1 + random.nextInt(most)).append(" ");
                t.append(1 + random.nextInt(most)).append(";");
            }
            PanSlices x = Check.with(t.toString());
            Model model = modelOf(t.toString());
            Check.due("one of " + t, x.one(), model.one());
            model.write();
            Check.dueText("one of " + t, Check.written(x), model.text);
            Check.due("ends of " + t, x.ends() >= Math.max(x.bound(0) + x.count(1), x.bound(1)), true);
            Check.due("judge of " + t, x.judge(), -1);
        }
    }

    private static Model modelOf(String kitchen) {
        Model model = new Model();
        byte[] bytes = Check.bytes(kitchen);
        for (int i = 0; i < bytes.length; i += 20) {
            model.feed(Check.numbers(bytes, i));
        }
        model.end(bytes.length);
        model.kitchen();
        return model;
    }

    private static void twoMasters() {
        PanSlices x = Check.with("pan 1;rest 9;slice a 1 1;slice b 1 1;slice c 1 1;");
        Check.due("three slices", x.masters(), 3);
        Check.dueText("plan", Check.written(x), "a t 0 0 1;b u 0 1 1;c t 1 0 1;a u 1 1 1;b t 2 0 1;c u 2 1 1;");
        Check.due("idle of a place that the pan has not", x.idle(1), -1);
        Check.due("idle of place 0", x.idle(0), 0);
        // The long side of the other PLACE first: b (under 9) on 0; then a (top 5) on 1.
        x = Check.with("slice a 5 1;slice b 2 9;slice c 1 1;");
        Check.due("minutes", x.masters(), 11);
        Check.dueText("plan", Check.written(x), "b t 0 0 2;a u 0 1 1;c u 1 1 1;a t 2 0 5;b u 2 1 9;c t 7 0 1;");
        // The only SLICE is on: the other PLACE waits.
        x = Check.with("slice a 3 4;");
        Check.due("minutes", x.masters(), 7);
        Check.dueText("plan", Check.written(x), "a t 0 0 3;a u 3 1 4;");
        Check.due("idle", x.idle(1), 3);
    }

    private static void mastersAreShortest() {
        Random random = new Random(11);
        for (int i = 0; i < 300; i++) {
            PanSlices x = Check.with(drawnSlices(random, 1 + random.nextInt(8), ""));
            int least = Math.max(x.bound(0), Math.max(x.bound(2), x.bound(3)));
            Check.due("masters", x.masters(), least);
            Check.due("ends", x.ends(), least);
            Check.due("judge", x.judge(), -1);
            Check.due("forgotten", x.forgotten(), -1);
        }
    }

    private static String drawnSlices(Random random, int slices, String head) {
        StringBuilder t = new StringBuilder(head);
        for (int s = 0; s < slices; s++) {
            t.append("slice ").append((char) ('a' + s)).append(" ").append(1 + random.nextInt(20)).append(" ");
            t.append(1 + random.nextInt(20)).append(random.nextInt(3) == 0 && head.length() > 0 ? " once;" : ";");
        }
        return t.toString();
    }

    private static void cooks() {
        PanSlices x = Check.with("slice a 1 1;slice b 1 1;slice c 1 1;");
        Check.due("the next", x.cook(0), 4);
        Check.dueText("plan", Check.written(x), "a t 0 0 1;b t 0 1 1;a u 1 0 1;b u 1 1 1;c t 2 0 1;c u 3 0 1;");
        Check.due("the longest", x.cook(1), 3);
        Check.dueText("plan", Check.written(x), "a t 0 0 1;b t 0 1 1;c t 1 0 1;a u 1 1 1;b u 2 0 1;c u 2 1 1;");
        Check.due("the half done", x.cook(2), 4);
        Check.dueText("plan", Check.written(x), "a t 0 0 1;b t 0 1 1;a u 1 0 1;b u 1 1 1;c t 2 0 1;c u 3 0 1;");
        Check.due("no such cook", x.cook(3), -1);
        Check.due("no such cook", x.cook(-1), -1);
        // a is liked best in the second minute, but its side stays on PLACE 1, where it was: the same GO.
        x = Check.with("slice a 5 1;slice b 6 1;");
        Check.due("the longest", x.cook(1), 7);
        Check.dueText("plan", Check.written(x), "b t 0 0 6;a t 0 1 5;a u 5 1 1;b u 6 0 1;");
        // In the fourth minute a takes PLACE 0, the least that is free, and b, who was there, must move.
        x = Check.with("slice a 1 2;slice b 1 4;slice c 3 1;");
        Check.due("the longest", x.cook(1), 6);
        Check.dueText("plan", Check.written(x), "b t 0 0 1;c t 0 1 1;b u 1 0 2;a t 1 1 1;c t 2 1 1;a u 3 0 1;b u 3 1 1;"
            + "c t 4 0 1;a u 4 1 1;b u 5 0 1;c u 5 1 1;");
        // By turns: a and b are off and on again, in several GOES.
        x = Check.with("pan 1;slice a 3 1;slice b 3 1;");
        Check.due("the longest by turns", x.cook(1), 8);
        Check.dueText("plan", Check.written(x),
            "a t 0 0 1;b t 1 0 1;a t 2 0 1;b t 3 0 1;a t 4 0 1;b t 5 0 1;a u 6 0 1;b u 7 0 1;");
    }

    private static void cooksOfOnce() {
        PanSlices x = Check.with("pan 1;slice a 3 1 once;slice b 3 1;");
        Check.due("the longest", x.cook(1), 8);
        // a stays till its side is done; then b is longer till they are alike.
        Check.dueText("plan", Check.written(x), "a t 0 0 3;b t 3 0 3;a u 6 0 1;b u 7 0 1;");
        x = Check.with("pan 2;slice a 1 1;slice b 1 1;slice c 4 1 once;");
        Check.due("the next", x.cook(0), 7);
        Check.dueText("plan", Check.written(x), "a t 0 0 1;b t 0 1 1;a u 1 0 1;b u 1 1 1;c t 2 0 4;c u 6 0 1;");
    }

    private static void cooksWithRest() {
        PanSlices x = Check.with("pan 1;rest 2;slice a 1 1;");
        Check.due("rest", x.cook(0), 4);
        Check.dueText("plan", Check.written(x), "a t 0 0 1;a u 3 0 1;");
        x = Check.with("pan 1;rest 2;slice a 1 1;slice b 2 1;");
        // b comes in the rest of a, and a's under is the next as soon as its rest is over.
        Check.due("rest with another", x.cook(0), 6);
        Check.dueText("plan", Check.written(x), "a t 0 0 1;b t 1 0 2;a u 3 0 1;b u 5 0 1;");
    }

    private static void cooksKeepTheRules() {
        Random random = new Random(13);
        for (int i = 0; i < 200; i++) {
            String head = "pan " + (1 + random.nextInt(4)) + ";rest " + random.nextInt(10) + ";";
            PanSlices x = Check.with(drawnSlices(random, 1 + random.nextInt(8), head));
            for (int rule = 0; rule < 3; rule++) {
                Check.due("cook ends", x.cook(rule), x.ends());
                Check.due("judge", x.judge(), -1);
                Check.due("forgotten", x.forgotten(), -1);
            }
            Check.due("best", x.cook(x.best()), Math.min(x.cook(0), Math.min(x.cook(1), x.cook(2))));
        }
    }

    private static void cooksByTheModel() {
        Random random = new Random(17);
        for (int i = 0; i < 400; i++) {
            String head = "pan " + (1 + random.nextInt(4)) + ";rest " + (i % 2 == 0 ? random.nextInt(3) : random.nextInt(10)) + ";";
            StringBuilder t = new StringBuilder(head);
            int most = i % 3 == 0 ? 20 : 4;
            for (int s = 0; s < 1 + i % 8; s++) {
                t.append("slice ").append((char) ('a' + s)).append(" ").append(1 + random.nextInt(most)).append(" ");
                t.append(1 + random.nextInt(most)).append(random.nextInt(3) == 0 ? " once;" : ";");
            }
            PanSlices x = Check.with(t.toString());
            Model model = modelOf(t.toString());
            for (int rule = 0; rule < 3; rule++) {
                Check.due("cook " + rule + " of " + t, x.cook(rule), model.cook(rule));
                model.write();
                Check.dueText("cook " + rule + " of " + t, Check.written(x), model.text);
            }
        }
    }

    private static void cookOfTheHalfDone() {
        // At minute 4 a and c are half done, and b, who is ahead of c, is not: by 2 b waits, by 0 c does.
        PanSlices x = Check.with("pan 2;rest 2;slice a 1 5;slice b 5 1;slice c 1 1;");
        Check.due("the half done", x.cook(2), 9);
        Check.dueText("plan", Check.written(x),
            "a t 0 0 1;b t 0 1 4;c t 1 0 1;a u 3 0 5;c u 4 1 1;b t 5 1 1;b u 8 0 1;");
        Check.due("the next", x.cook(0), 8);
        Check.dueText("plan", Check.written(x), "a t 0 0 1;b t 0 1 5;c t 1 0 1;a u 3 0 5;c u 5 1 1;b u 7 1 1;");
    }

    private static void bestCook() {
        PanSlices x = Check.with("slice a 1 1;slice b 1 1;slice c 1 1;");
        Check.plan(x, "a top 0 0 1;");
        Check.due("best", x.best(), 1);
        Check.due("the plan stays", x.count(6), 1);
        Check.due("and nothing more can come back", x.undo(), 0);
        Check.due("of like ones the first", Check.with("slice a 1 1;").best(), 0);
    }

    private static void bounds() {
        PanSlices x = Check.with("pan 3;slice a 4 3;slice b 1 9;slice c 2 1;");
        int[] due = {10, 7, 7, 13};
        for (int what = 0; what < 4; what++) {
            Check.due("bound " + what, x.bound(what), due[what]);
            Check.due("bound without slices", new PanSlices().bound(what), 0);
        }
        Check.due("bound 4", x.bound(4), -1);
        Check.due("bound -1", x.bound(-1), -1);
    }
}
