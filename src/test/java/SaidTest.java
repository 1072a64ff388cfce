/** Promises 43 to 46: SENTENCES, what may be said, and images. */
public final class SaidTest {
    private SaidTest() { }

    public static void main(String[] args) {
        measures();
        planWords();
        joined();
        saidFollowsThePlan();
        saidOfNone();
        images();
        imagesAreCopies();
        restoreLeavesTheRest();
        Check.close("SaidTest");
    }

    /** The SLICES due as bits, asked for one by one too. */
    private static void said(PanSlices x, String text, int due) {
        Check.due("sentence " + text, Check.sentence(x, text) > 0, true);
        Check.due("said of " + text, x.said(-1), Integer.bitCount(due));
        int k = 0;
        for (int s = 0; s < 8; s++) {
            if ((due >> s & 1) == 1) {
                Check.due("said " + k + " of " + text, x.said(k), s);
                k++;
            }
        }
        Check.due("said behind the last of " + text, x.said(k), -1);
        Check.due("said -2 of " + text, x.said(-2), -1);
    }

    private static PanSlices someKitchen() {
        return Check.with("pan 4;slice a 1 4;slice b 2 3 once;slice c 3 2;slice d 4 1 once;");
    }

    private static void measures() {
        PanSlices x = someKitchen();
        said(x, "top<3", 0b0011);
        said(x, "top=3", 0b0100);
        said(x, "top>3", 0b1000);
        said(x, "under<3", 0b1100);
        said(x, "under=4", 0b0001);
        said(x, "under>999", 0);
        said(x, "once", 0b1010);
        said(x, "goes=0", 0b1111);
        said(x, "ends=0", 0b1111);
        said(x, "goes>0 or ends>0", 0);
        said(x, "top = 01", 0b0001);
    }

    private static void planWords() {
        PanSlices x = someKitchen();
        // a is done and ends at 9 by its first GO, b ends at 9 too, c at 20 with too few, d has none.
        Check.plan(x, "a under 5 0 4;a top 0 0 1;b top 7 1 2;b under 0 1 2;b under 3 1 1;c top 19 2 1;");
        said(x, "done", 0b0011);
        said(x, "goes=2", 0b0001);
        said(x, "goes>2", 0b0010);
        said(x, "goes=1", 0b0100);
        said(x, "ends=9", 0b0011);
        said(x, "ends>9", 0b0100);
        said(x, "ends<1", 0b1000);
        said(x, "top=1 and under=4", 0b0001);
        said(x, "after a", 0b0100);
        said(x, "after b", 0b0100);
        said(x, "after c", 0);
        said(x, "after d", 0);
    }

    private static void joined() {
        PanSlices x = someKitchen();
        said(x, "not once", 0b0101);
        said(x, "not not once", 0b1010);
        said(x, "top=1 or top=2 and once", 0b0011);
        said(x, "(top=1 or top=2) and once", 0b0010);
        said(x, "top=1 and once or top=4", 0b1000);
        said(x, "not top=1 and once", 0b1010);
        said(x, "not (top=1 or once)", 0b0100);
        said(x, "top=1 or top=2 or top=3", 0b0111);
        said(x, "top>1 and top>2 and top>3", 0b1000);
        said(x, "once or done and not once", 0b1010);
        said(x, "((((((once))))))and(not(done))", 0b1010);
    }

    private static void saidFollowsThePlan() {
        PanSlices x = someKitchen();
        Check.sentence(x, "done");
        Check.due("none is done", x.said(-1), 0);
        x.several();
        Check.due("all are", x.said(-1), 4);
        x.undo();
        Check.due("none again", x.said(-1), 0);
    }

    private static void saidOfNone() {
        PanSlices x = new PanSlices();
        Check.due("no sentence", x.said(-1), -1);
        Check.due("no sentence", x.said(0), -1);
        Check.due("sentence without slices", Check.sentence(x, "not once"), 2);
        Check.due("of none", x.said(-1), 0);
        Check.due("of none", x.said(0), -1);
        x.kitchen();
        Check.due("a new kitchen has none", x.said(-1), -1);
    }

    private static void images() {
        PanSlices x = someKitchen();
        Check.due("nothing kept", x.restore(0), false);
        Check.due("no such", x.image(-1), false);
        Check.due("no such", x.image(2), false);
        Check.due("no such", x.restore(-1), false);
        Check.due("no such", x.restore(2), false);
        Check.plan(x, "a top 0 0 1;");
        Check.sentence(x, "once");
        Check.due("image 1", x.image(1), true);
        Check.due("0 keeps nothing", x.restore(0), false);
        Check.kitchen(x, "pan 1;rest 7;cold 3;burn 1 2;slice z 9 9;guest g 1 2;sort 3 4;");
        x.add(0, 1, 5, 0, 2);
        x.add(0, 1, 7, 0, 2);
        Check.sentence(x, "not once");
        Check.due("image 0", x.image(0), true);
        Check.due("restore 1", x.restore(1), true);
        Check.due("places", x.count(0), 4);
        Check.due("slices", x.count(3), 4);
        Check.due("guests", x.count(4), 0);
        Check.dueText("plan", Check.written(x), "a t 0 0 1;");
        Check.due("said", x.said(0), 1);
        Check.due("undo", x.undo(), -1);
        Check.due("restore 0", x.restore(0), true);
        int[] due = {1, 7, 3, 1, 1, 1, 2, 0};
        for (int what = 0; what < 8; what++) {
            Check.due("count " + what, x.count(what), due[what]);
        }
        Check.due("slice", x.slice(0, 1), 9);
        Check.due("guest", x.guest(0, 1), 2);
        Check.due("sort", x.sort(0, 1), 4);
        Check.due("burn", x.mean(0, 0), 54);
        Check.dueText("plan", Check.written(x), "z u 5 0 2;z u 7 0 2;");
        Check.due("said", x.said(0), 0);
    }

    private static void imagesAreCopies() {
        PanSlices x = someKitchen();
        x.add(0, 0, 3, 0, 1);
        x.image(0);
        x.later(0, 5);
        x.add(1, 0, 3, 0, 1);
        Check.sentence(x, "once");
        Check.due("restore", x.restore(0), true);
        Check.dueText("plan as kept", Check.written(x), "a t 3 0 1;");
        Check.due("no sentence was kept", x.said(-1), -1);
        x.drop(0);
        Check.due("restore again", x.restore(0), true);
        Check.due("goes as kept", x.count(6), 1);
        Check.due("names as kept", Check.plan(x, "d top 0 0 1;"), 1);
    }

    private static void restoreLeavesTheRest() {
        PanSlices x = Check.with("slice a 1 1;guest g 4 9;sort 1 1;");
        x.image(0);
        x.served(4);
        x.hotel(3, 1, 2);
        Check.plan(x, "a top 0 0 2;");
        x.judge();
        x.write();
        Check.plan(x, "b");
        Check.feed(x, "abc");
        Check.due("restore", x.restore(0), true);
        Check.due("the tape stays", x.count(7), 3);
        Check.due("fault stays", x.fault(), 3);
        Check.due("why stays", x.why(), 3);
        Check.due("servedAt stays", x.servedAt(0), 4);
        Check.due("pans stay", x.pans(0), 3);
        Check.due("the text stays", x.byteAt(0), 'a');
        Check.due("no plan", x.count(6), 0);
        Check.due("none comes back", x.undo(), -1);
    }
}
