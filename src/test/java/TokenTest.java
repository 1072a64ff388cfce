import java.util.ArrayList;
import java.util.List;
import java.util.Random;

/** Each TOKEN of a text taken out, or another put for it or ahead of it: the answer, the FAULT and what is told, by the Model. */
public final class TokenTest {
    private static final String[] KITCHENS = {
        "pan 3 ; rest 1 ; cold 5 ; burn 1 4 ; slice a 3 4 ; slice bb 2 2 once ; guest g 5 9 ; sort 2 5 ;",
        "slice ah 1 20 once ; guest ai 240 99 ; sort 9 99 ; burn 19 20 ; pan 4 ; slice a 1 1 ; slice bb 1 1 ;",
    };
    private static final String[] PLANS = {"a top 0 0 1 ; bb under 7 1 2 ; ah top 240 1 20 ;", "a under 1 0 1 ;"};
    private static final String[] SENTENCES = {
        "not ( once or done ) and after a or top < 3 and goes = 2 or under > 1 and ends > 7",
        "( ( not not once ) ) and ends = 0 or after bb",
    };
    /** With NUMBERS and WORDS that are, by their bytes or their letters, what a SIGN is. */
    private static final String[] TOKENS = {
        "pan", "rest", "cold", "burn", "slice", "guest", "sort", "once", "top", "under", "goes", "ends", "not", "done", "after", "and",
        "or", "a", "bb", "g", "ah", "ai", "zz", "t", "u", "abcdef", "abcdefg", "a1", "1a", "0", "1", "2", "4", "5", "9", "10", "19", "20",
        "21", "40", "41", "59", "60", "61", "62", "99", "100", "240", "241", "999", "1000", "00", "001", ";", "<", "=", ">", "(", ")",
        ".", ",", "-1", ";;", "((", "))", "A", "\u00e1", "\t",
    };

    private TokenTest() { }

    public static void main(String[] args) {
        for (String text : KITCHENS) {
            changed(0, text);
        }
        for (String text : PLANS) {
            changed(1, text);
        }
        for (String text : SENTENCES) {
            changed(2, text);
        }
        Random random = new Random(5);
        for (int i = 0; i < 6000; i++) {
            drawn(random, i % 3);
        }
        Check.close("TokenTest");
    }

    private static void changed(int kind, String text) {
        String[] tokens = text.split(" ");
        for (int at = 0; at <= tokens.length; at++) {
            for (String other : TOKENS) {
                look(kind, joined(tokens, at, 0, other, " "));
                if (at < tokens.length) {
                    look(kind, joined(tokens, at, 1, other, " "));
                }
            }
            if (at < tokens.length) {
                look(kind, joined(tokens, at, 1, "", "\n"));
            }
        }
        look(kind, text.replaceAll(" ?([;<=>()]) ?", "$1"));
    }

    private static String joined(String[] tokens, int at, int less, String other, String blank) {
        StringBuilder t = new StringBuilder();
        for (int i = 0; i <= tokens.length; i++) {
            if (i == at) {
                t.append(other).append(blank);
            }
            if (i < tokens.length && (i != at || less == 0)) {
                t.append(tokens[i]).append(blank);
            }
        }
        return t.toString();
    }

    /** Some TOKENS one behind the other, as they are drawn. */
    private static void drawn(Random random, int kind) {
        StringBuilder t = new StringBuilder();
        int n = random.nextInt(6);
        for (int i = 0; i < n; i++) {
            t.append(TOKENS[random.nextInt(TOKENS.length)]).append(random.nextInt(3) == 0 ? "" : " ");
        }
        look(kind, t.toString());
    }

    private static void look(int kind, String text) {
        PanSlices x = Check.with("pan 2;slice a 3 4;slice bb 2 2 once;slice ah 1 1;guest g 5 9;");
        Check.plan(x, "a top 0 0 1;bb under 7 1 2;bb top 0 1 2;");
        Model model = new Model();
        model.tape = Check.bytes("pan 2;slice a 3 4;slice bb 2 2 once;slice ah 1 1;guest g 5 9;");
        model.kitchen();
        model.tape = Check.bytes("a top 0 0 1;bb under 7 1 2;bb top 0 1 2;");
        model.plan();
        Check.feed(x, text);
        model.tape = Check.bytes(text);
        long due = kind == 0 ? model.kitchen() : kind == 1 ? model.plan() : model.sentence();
        long got = kind == 0 ? x.kitchen() : kind == 1 ? x.plan() : x.sentence();
        Check.due("[" + text + "]", got, due);
        Check.due("fault of [" + text + "]", x.fault(), model.fault);
        model.write();
        Check.dueText("plan behind [" + text + "]", Check.written(x), model.text);
        Check.dueText("kitchen behind [" + text + "]", told(x).toString(), told(model).toString());
        for (int k = -1; k < 3; k++) {
            Check.due("said behind [" + text + "]", x.said(k), model.said(k));
        }
    }

    private static List<Long> told(PanSlices x) {
        List<Long> all = new ArrayList<>();
        for (int what = 0; what < 8; what++) {
            all.add((long) x.count(what));
        }
        for (int s = 0; s < x.count(3); s++) {
            all.add(x.slice(s, 0) + 100L * x.slice(s, 1) + 10000L * x.slice(s, 2));
            all.add(x.mean(s, 0));
        }
        for (int g = 0; g < x.count(4); g++) {
            all.add(x.guest(g, 0) + 1000L * x.guest(g, 1));
        }
        for (int k = 0; k < x.count(5); k++) {
            all.add(x.sort(k, 0) + 1000L * x.sort(k, 1));
        }
        return all;
    }

    private static List<Long> told(Model x) {
        List<Long> all = new ArrayList<>();
        for (int what = 0; what < 8; what++) {
            all.add((long) x.count(what));
        }
        for (int s = 0; s < x.count(3); s++) {
            all.add(x.slice(s, 0) + 100L * x.slice(s, 1) + 10000L * x.slice(s, 2));
            all.add(x.mean(s, 0));
        }
        for (int g = 0; g < x.count(4); g++) {
            all.add(x.guest(g, 0) + 1000L * x.guest(g, 1));
        }
        for (int k = 0; k < x.count(5); k++) {
            all.add(x.sort(k, 0) + 1000L * x.sort(k, 1));
        }
        return all;
    }
}
