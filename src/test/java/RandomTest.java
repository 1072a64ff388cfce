import java.util.NoSuchElementException;
import java.util.Random;

/** Runs of calls drawn by seeds, on a PanSlices and on a Model: every answer must be the same. */
public final class RandomTest {
    private static final String[] WORDS = {"pan", "rest", "cold", "burn", "slice", "once", "guest", "sort", "top", "under",
        "or", "and", "not", "done", "after", "goes", "ends", "a", "b", "zz", "ga", "toolong", "abcdef", "x1", "1x"};
    private static final String[] SIGNS = {";", "<", "=", ">", "(", ")", ".", ",", "A", "\t", "\u00e9", "0", "7", "20",
        "240", "241", "999", "1000", "007", " ", "\n"};

    private final Random random;
    private final PanSlices x = new PanSlices();
    private final Model model = new Model();
    private final String name;

    private RandomTest(int seed) {
        random = new Random(seed);
        name = "seed " + seed + " ";
    }

    public static void main(String[] args) {
        int runs = args.length > 0 ? Integer.parseInt(args[0]) : 120;
        int first = args.length > 1 ? Integer.parseInt(args[1]) : 0;
        for (int seed = first; seed < first + runs && !Check.anyWrong(); seed++) {
            new RandomTest(seed).run();
        }
        Check.close("RandomTest");
    }

    private void run() {
        for (int i = 0; i < 200 && !Check.anyWrong(); i++) {
            step();
        }
    }

    private int draw(int low, int high) {
        return low + random.nextInt(high - low + 1);
    }

    private boolean rarely(int n) {
        return random.nextInt(n) == 0;
    }

    // ---- texts ----

    private String kitchenText() {
        StringBuilder t = new StringBuilder();
        boolean small = rarely(2);
        int most = small ? 4 : 20;
        if (!rarely(4)) {
            t.append("pan ").append(draw(1, 4)).append(";");
        }
        if (!rarely(3)) {
            t.append("rest ").append(rarely(2) ? 0 : draw(0, 9)).append(";");
        }
        if (!rarely(3)) {
            t.append("cold ").append(rarely(2) ? draw(0, 9) : draw(0, 99)).append("\n;");
        }
        if (!rarely(3)) {
            int k = draw(0, 19);
            t.append("burn ").append(k).append(" ").append(draw(k + 1, 20)).append(";");
        }
        int slices = rarely(3) ? draw(0, 8) : draw(1, 3);
        for (int s = 0; s < slices; s++) {
            t.append("slice ").append(rarely(9) ? "longer".substring(0, 5) : "").append((char) ('a' + s)).append(" ");
            t.append(draw(1, most)).append(" ").append(draw(1, most)).append(rarely(4) ? " once;" : " ;");
        }
        int guests = draw(0, rarely(6) ? 8 : 4);
        int base = draw(0, 200);
        for (int g = 0; g < guests; g++) {
            t.append("guest g").append((char) ('a' + g)).append(" ").append(draw(base, base + (rarely(2) ? 3 : 40)));
            t.append(" ").append(rarely(2) ? draw(0, 20) : draw(0, 99)).append(";");
        }
        int sorts = draw(0, rarely(4) ? 5 : 3);
        for (int k = 0; k < sorts; k++) {
            t.append("sort ").append(draw(1, 9)).append(" ").append(rarely(2) ? draw(1, 9) : draw(1, 99)).append(";");
        }
        return t.toString();
    }

    private String planText() {
        StringBuilder t = new StringBuilder();
        int lines = rarely(30) ? draw(29, 32) : draw(0, 8);
        for (int i = 0; i < lines; i++) {
            t.append((char) ('a' + draw(0, Math.max(0, model.kitchen.slices.size() - 1))));
            t.append(rarely(2) ? " top " : " under ").append(draw(0, rarely(9) ? 240 : 12)).append(" ");
            t.append(draw(0, model.kitchen.places - 1)).append(" ").append(draw(1, rarely(4) ? 20 : 3)).append(";");
        }
        return t.toString();
    }

    private String sentenceText(int depth) {
        int kind = depth > 9 ? draw(3, 9) : draw(0, 9);
        switch (kind) {
            case 0: return sentenceText(depth + 1) + (rarely(2) ? " or " : " and ") + sentenceText(depth + 1);
            case 1: return "not " + sentenceText(depth + 1);
            case 2: return "(" + sentenceText(depth + 1) + ")";
            case 3: return "once";
            case 4: return "done";
            case 5: return "after " + (char) ('a' + draw(0, Math.max(0, model.kitchen.slices.size() - 1)));
            default: return new String[] {"top", "under", "goes", "ends"}[kind - 6]
                + new String[] {"<", "=", ">"}[draw(0, 2)] + draw(0, kind == 8 ? 3 : 12);
        }
    }

    /** A chain of many 'or', 'not' or brackets, so that the limits are met. */
    private String longSentence() {
        if (rarely(2)) {
            return "not ".repeat(draw(6, 9)) + "once" + (rarely(2) ? " or " + sentenceText(5) : "");
        }
        if (rarely(2)) {
            int n = draw(6, 9);
            return "(".repeat(n) + "done" + ")".repeat(n);
        }
        return "once or ".repeat(draw(17, 21)) + sentenceText(8);
    }

    private String spoiled(String text) {
        StringBuilder t = new StringBuilder(text);
        int changes = draw(1, 2);
        for (int i = 0; i < changes; i++) {
            int at = draw(0, t.length());
            String part = rarely(2) ? WORDS[draw(0, WORDS.length - 1)] : SIGNS[draw(0, SIGNS.length - 1)];
            if (rarely(3) && at < t.length()) {
                t.deleteCharAt(at);
            } else if (rarely(2)) {
                t.insert(at, part);
            } else {
                t.insert(at, " " + part + " ");
            }
        }
        return t.toString();
    }

    private String padded(String text, int limit) {
        StringBuilder t = new StringBuilder(text);
        int want = draw(limit - 5, Math.min(640, limit + 20));
        while (t.length() < want) {
            int at = draw(0, t.length());
            if (at == 0 || at == t.length() || t.charAt(at) == ' ' || t.charAt(at) == ';') {
                t.insert(at, " ");
            }
        }
        return t.toString();
    }

    private void feed(String text) {
        byte[] bytes = Check.bytes(text);
        if (bytes.length > 640) {
            bytes = java.util.Arrays.copyOf(bytes, 640);
        }
        x.end(0);
        model.end(0);
        for (int i = 0; i < bytes.length; i += 20) {
            int[] n = Check.numbers(bytes, i);
            Check.due(name + "feed", x.feed(n[0], n[1], n[2], n[3], n[4]), model.feed(n));
        }
        Check.due(name + "end", x.end(bytes.length), model.end(bytes.length));
    }

    private void read(String text, int kind) {
        feed(text);
        String call = name + "text " + kind + " [" + text + "]";
        if (kind == 0) {
            Check.due(call, x.kitchen(), model.kitchen());
        } else if (kind == 1) {
            Check.due(call, x.plan(), model.plan());
        } else {
            Check.due(call, x.sentence(), model.sentence());
        }
        Check.due(call + " fault", x.fault(), model.fault);
    }

    private void readSome() {
        int kind = rarely(12) ? 0 : draw(1, 2);
        int limit = kind == 2 ? 200 : 600;
        String text = kind == 0 ? kitchenText() : kind == 1 ? planText() : rarely(5) ? longSentence() : sentenceText(0);
        if (rarely(12)) {
            text = padded(text, limit);
        }
        if (rarely(3)) {
            text = spoiled(text);
        }
        read(text, kind);
    }

    // ---- calls ----

    private void step() {
        if (model.kitchen.slices.isEmpty() && !rarely(5)) {
            read(kitchenText(), 0);
        }
        switch (draw(0, 9)) {
            case 0:
            case 1: readSome(); break;
            case 2: make(); break;
            case 3:
            case 4:
            case 5: change(); break;
            case 6: sums(); break;
            case 7: keep(); break;
            default: break;
        }
        look();
    }

    private void make() {
        int rule = draw(-1, 3);
        switch (draw(0, 4)) {
            case 0: Check.due(name + "several", x.several(), model.several()); break;
            case 1:
                if (model.kitchen.slices.size() != 4 || rarely(10)) {
                    Check.due(name + "one", x.one(), model.one());
                }
                break;
            case 2: Check.due(name + "masters", x.masters(), model.masters()); break;
            case 3: Check.due(name + "best", x.best(), model.best()); break;
            default: Check.due(name + "cook " + rule, x.cook(rule), model.cook(rule)); break;
        }
    }

    private void change() {
        int k = draw(-1, model.plan.size());
        int s = draw(rarely(9) ? -1 : 0, model.kitchen.slices.size());
        switch (draw(0, 5)) {
            case 0:
            case 1: {
                int side = rarely(20) ? draw(-1, 2) : draw(0, 1);
                int minute = rarely(9) ? draw(-1, 241) : draw(0, 30);
                int place = draw(0, rarely(9) ? 4 : model.kitchen.places - 1);
                int n = rarely(9) ? draw(0, 21) : draw(1, 4);
                Check.due(name + "add", x.add(s, side, minute, place, n), model.add(s, side, minute, place, n));
                break;
            }
            case 2: Check.due(name + "drop", x.drop(k), model.drop(k)); break;
            case 3: {
                int by = rarely(9) ? draw(-901, 901) : rarely(50) ? Integer.MAX_VALUE : draw(-6, 9);
                Check.due(name + "later", x.later(k, by), model.later(k, by));
                break;
            }
            case 4: Check.due(name + "early", x.early(), model.early()); break;
            default: Check.due(name + "undo", x.undo(), model.undo()); break;
        }
    }

    private void sums() {
        switch (draw(0, 6)) {
            case 0: {
                int minutes = draw(0, 41);
                if (model.kitchen.guests.size() <= 4 || minutes > 8) {
                    Check.due(name + "served " + minutes, x.served(minutes), model.served(minutes));
                }
                break;
            }
            case 1: {
                int n = rarely(5) ? draw(0, 201) : draw(1, 20);
                int minutes = draw(0, rarely(3) ? 21 : 4);
                int all = rarely(5) ? draw(0, 401) : draw(2, 30);
                if (model.kitchen.sorts.size() <= 3 || n <= 20) {
                    Check.due(name + "hotel", x.hotel(n, minutes, all), model.hotel(n, minutes, all));
                }
                break;
            }
            case 2: {
                StringBuilder told = new StringBuilder();
                int slices = rarely(9) ? draw(0, 6) : draw(1, 5);
                for (int i = 0; i < slices; i++) {
                    told.append((char) (rarely(30) ? 4 : rarely(50) ? 255 : draw(0, 3)));
                }
                feed(told.toString());
                int m = rarely(9) ? draw(-1, 11) : draw(0, 7);
                int p = rarely(9) ? draw(0, 5) : draw(1, 4);
                Check.due(name + "brown " + m + " " + p, x.brown(m, p), model.brown(m, p));
                break;
            }
            case 3: {
                int seed = random.nextInt();
                Check.due(name + "morning " + seed, x.morning(seed), model.morning(seed));
                break;
            }
            case 4: {
                int n = draw(0, rarely(3) ? 101 : 9);
                int seed = rarely(9) ? Integer.MAX_VALUE - 2 : draw(-5, 5);
                Check.due(name + "mornings", x.mornings(n, seed), model.mornings(n, seed));
                break;
            }
            case 5: {
                int n = rarely(9) ? draw(0, 4001) : draw(0, 30);
                int k = rarely(9) ? draw(0, 61) : draw(0, 9);
                int minute = draw(-1, 20);
                int place = draw(-1, 9);
                Check.due(name + "alike", x.alike(n, k), Model.alike(n, k));
                Check.due(name + "alikeAt", x.alikeAt(n, k, minute, place), Model.alikeAt(n, k, minute, place));
                break;
            }
            default: {
                int n = rarely(9) ? draw(0, 4001) : draw(0, 30);
                int minutes = draw(0, 21);
                int all = rarely(3) ? draw(0, 1000) : draw(1, 60);
                Check.due(name + "fewest", x.fewest(n, minutes, all), Model.fewest(n, minutes, all));
                break;
            }
        }
    }

    private void keep() {
        int k = draw(-1, 2);
        if (rarely(2)) {
            Check.due(name + "image", x.image(k), model.image(k));
        } else if (rarely(2)) {
            Check.due(name + "restore", x.restore(k), model.restore(k));
        }
    }

    private void look() {
        for (int what = -1; what <= 8; what++) {
            Check.due(name + "count " + what, x.count(what), model.count(what));
        }
        Check.due(name + "judge", x.judge(), model.judge());
        Check.due(name + "why", x.why(), model.why);
        Check.due(name + "ends", x.ends(), model.ends());
        Check.due(name + "done", x.done(), model.done());
        Check.due(name + "forgotten", x.forgotten(), model.forgotten());
        int place = draw(-1, 4);
        Check.due(name + "idle", x.idle(place), model.idle(place));
        int minute = rarely(9) ? draw(-1, 1000) : draw(0, 30);
        Check.due(name + "on", x.on(minute), model.on(minute));
        for (int k = -1; k <= model.plan.size(); k++) {
            for (int what = -1; what <= 5; what++) {
                Check.due(name + "go " + k + " " + what, x.go(k, what), model.go(k, what));
            }
        }
        Check.due(name + "write", x.write(), model.write());
        for (int i = -1; i <= model.text.length(); i++) {
            Check.due(name + "byteAt " + i, x.byteAt(i), model.byteAt(i));
        }
        for (int k = -2; k <= 8; k++) {
            Check.due(name + "said " + k, x.said(k), model.said(k));
        }
        for (int g = -1; g <= 8; g++) {
            Check.due(name + "servedAt " + g, x.servedAt(g), model.servedAt(g));
            Check.due(name + "pans " + g, x.pans(g), model.pans(g));
        }
        for (int what = -1; what <= 4; what++) {
            Check.due(name + "bound " + what, x.bound(what), model.bound(what));
        }
        lookWithThrows();
    }

    private void lookWithThrows() {
        for (int i = -1; i <= 8; i++) {
            for (int w = -1; w <= 3; w++) {
                int s = i;
                int what = w;
                same("slice", () -> x.slice(s, what), () -> model.slice(s, what));
                same("guest", () -> x.guest(s, what), () -> model.guest(s, what));
                same("sort", () -> x.sort(s, what), () -> model.sort(s, what));
                same("left", () -> x.left(s, what), () -> model.left(s, what));
                same("mean", () -> x.mean(s, what), () -> model.mean(s, what));
            }
        }
    }

    private void same(String call, Check.Call one, Check.Call other) {
        Check.due(name + call, answerOf(one), answerOf(other));
    }

    private static long answerOf(Check.Call call) {
        try {
            return call.answer();
        } catch (NoSuchElementException e) {
            return Long.MIN_VALUE;
        }
    }
}
