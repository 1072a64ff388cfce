import java.util.ArrayList;
import java.util.Arrays;
import java.util.HashMap;
import java.util.List;
import java.util.Map;
import java.util.NoSuchElementException;
import java.util.Set;
import java.util.TreeMap;

/**
 * The document once more, in its plainest form: lists and maps, every minute and every order looked at.
 * It is slow and shares no code with PanSlices, so that RandomTest can hold the one against the other.
 */
final class Model {
    static final class Fault extends RuntimeException {
        private static final long serialVersionUID = 1L;
        final int kind;
        final int place;

        Fault(int kind, int place) {
            this.kind = kind;
            this.place = place;
        }
    }

    record Token(String text, int place) {
        boolean isWord() {
            return text.matches("[a-z]{1,6}");
        }

        boolean isNumber() {
            return text.matches("[0-9]{1,3}");
        }
    }

    record Slice(String name, int top, int under, boolean once) {
        int need(int side) {
            return side == 0 ? top : under;
        }
    }

    record Guest(String name, int comes, int worth) { }

    record Sort(int places, int cost) { }

    record Go(int slice, int side, int minute, int place, int n) {
        int end() {
            return minute + n;
        }

        Go at(int other) {
            return new Go(slice, side, other, place, n);
        }
    }

    static final class Kitchen {
        int lines;
        int places = 2;
        int rest = 0;
        int cold = 10;
        int k = 0;
        int m = 1;
        List<Slice> slices = new ArrayList<>();
        List<Guest> guests = new ArrayList<>();
        List<Sort> sorts = new ArrayList<>();
    }

    interface Cond {
        boolean of(int s);
    }

    static final Set<String> OWN = Set.of("pan", "rest", "cold", "burn", "slice", "once", "guest", "sort", "top", "under",
        "or", "and", "not", "done", "after", "goes", "ends");

    byte[] tape = new byte[0];
    Kitchen kitchen = new Kitchen();
    List<Go> plan = new ArrayList<>();
    List<List<Go>> back = new ArrayList<>();
    Cond sentence = null;
    int ones;
    int fault = 0;
    int why = -1;
    String text = "";
    Map<Integer, Integer> servedMinutes = new HashMap<>();
    int[] pans = null;
    Object[][] images = new Object[2][];

    // ---- texts ----

    int feed(int... numbers) {
        if (tape.length + 20 > 640) {
            return -1;
        }
        int n = tape.length;
        tape = Arrays.copyOf(tape, n + 20);
        for (int i = 0; i < 20; i++) {
            tape[n + i] = (byte) (numbers[i / 4] >> 8 * (3 - i % 4));
        }
        return tape.length;
    }

    boolean end(int n) {
        if (n < 0 || n > tape.length) {
            return false;
        }
        tape = Arrays.copyOf(tape, n);
        return true;
    }

    static List<Token> tokens(byte[] bytes, int limit) {
        String all = new String(bytes, java.nio.charset.StandardCharsets.ISO_8859_1);
        List<Token> found = new ArrayList<>();
        int i = 0;
        while (i < all.length()) {
            char c = all.charAt(i);
            if (c == ' ' || c == '\n') {
                i++;
                continue;
            }
            if (all.length() > limit && i >= limit) {
                break;
            }
            int from = i;
            i++;
            if (String.valueOf(c).matches("[a-z0-9]")) {
                while (i < all.length() && all.substring(i, i + 1).matches("[a-z0-9]")) {
                    i++;
                }
            }
            found.add(new Token(all.substring(from, i), from));
        }
        found.add(all.length() > limit ? new Token("?", limit) : new Token("", all.length()));
        return found;
    }

    private List<Token> row;
    private int at;

    private void open(int limit) {
        row = tokens(tape, limit);
        at = 0;
        tape = new byte[0];
    }

    private Token peek() {
        return row.get(at);
    }

    private boolean sees(String text) {
        return peek().text().equals(text);
    }

    private void need(String text) {
        if (!sees(text)) {
            throw new Fault(1, peek().place());
        }
        at++;
    }

    private int number(int low, int high) {
        if (!peek().isNumber()) {
            throw new Fault(1, peek().place());
        }
        int n = Integer.parseInt(peek().text());
        if (n < low || n > high) {
            throw new Fault(2, peek().place());
        }
        at++;
        return n;
    }

    private String name() {
        if (!peek().isWord() || OWN.contains(peek().text())) {
            throw new Fault(1, peek().place());
        }
        return peek().text();
    }

    int kitchen() {
        open(600);
        try {
            Kitchen made = new Kitchen();
            List<String> told = new ArrayList<>();
            while (!sees("")) {
                kitchenLine(made, told);
                need(";");
                made.lines++;
            }
            kitchen = made;
            plan = new ArrayList<>();
            back.clear();
            sentence = null;
            fault = 0;
            return made.lines;
        } catch (Fault f) {
            fault = f.kind;
            return -1 - f.place;
        }
    }

    private void kitchenLine(Kitchen made, List<String> told) {
        Token first = peek();
        String word = first.text();
        if (!List.of("pan", "rest", "cold", "burn", "slice", "guest", "sort").contains(word)) {
            throw new Fault(1, first.place());
        }
        if (told.contains("=" + word)) {
            throw new Fault(3, first.place());
        }
        if (word.equals("slice") && made.slices.size() == 8 || word.equals("guest") && made.guests.size() == 8
            || word.equals("sort") && made.sorts.size() == 5) {
            throw new Fault(4, first.place());
        }
        at++;
        if (List.of("pan", "rest", "cold", "burn").contains(word)) {
            told.add("=" + word);
        }
        if (word.equals("pan")) {
            made.places = number(1, 4);
        } else if (word.equals("rest")) {
            made.rest = number(0, 9);
        } else if (word.equals("cold")) {
            made.cold = number(0, 99);
        } else if (word.equals("burn")) {
            made.k = number(0, 19);
            made.m = number(made.k + 1, 20);
        } else if (word.equals("sort")) {
            int places = number(1, 9);
            made.sorts.add(new Sort(places, number(1, 99)));
        } else {
            String name = name();
            if (told.contains(name)) {
                throw new Fault(3, peek().place());
            }
            told.add(name);
            at++;
            if (word.equals("guest")) {
                int comes = number(0, 240);
                made.guests.add(new Guest(name, comes, number(0, 99)));
            } else {
                int top = number(1, 20);
                int under = number(1, 20);
                boolean once = sees("once");
                if (once) {
                    at++;
                }
                made.slices.add(new Slice(name, top, under, once));
            }
        }
    }

    private int sliceNamed() {
        String name = name();
        for (int s = 0; s < kitchen.slices.size(); s++) {
            if (kitchen.slices.get(s).name().equals(name)) {
                return s;
            }
        }
        throw new Fault(3, peek().place());
    }

    int plan() {
        open(600);
        try {
            List<Go> made = new ArrayList<>();
            while (!sees("")) {
                int s = sliceNamed();
                if (made.size() == 30) {
                    throw new Fault(4, peek().place());
                }
                at++;
                int side = sees("top") ? 0 : sees("under") ? 1 : 2;
                if (side == 2) {
                    throw new Fault(1, peek().place());
                }
                at++;
                int minute = number(0, 240);
                int place = number(0, kitchen.places - 1);
                int n = number(1, 20);
                need(";");
                made.add(new Go(s, side, minute, place, n));
            }
            fault = 0;
            adopt(made);
            return made.size();
        } catch (Fault f) {
            fault = f.kind;
            return -1 - f.place;
        }
    }

    int sentence() {
        open(200);
        int before = ones;
        ones = 0;
        try {
            Cond made = cond(1);
            need("");
            sentence = made;
            fault = 0;
            return ones;
        } catch (Fault f) {
            ones = before;
            fault = f.kind;
            return -1 - f.place;
        }
    }

    private Cond cond(int depth) {
        Cond first = all(depth);
        if (!sees("or")) {
            return first;
        }
        at++;
        Cond rest = cond(depth);
        return s -> first.of(s) | rest.of(s);
    }

    private Cond all(int depth) {
        Cond first = single(depth);
        if (!sees("and")) {
            return first;
        }
        at++;
        Cond rest = all(depth);
        return s -> first.of(s) & rest.of(s);
    }

    private Cond single(int depth) {
        String word = peek().text();
        if (!List.of("not", "(", "once", "done", "after", "top", "under", "goes", "ends").contains(word)) {
            throw new Fault(1, peek().place());
        }
        if (ones == 20 || depth == 9) {
            throw new Fault(4, peek().place());
        }
        ones++;
        at++;
        switch (word) {
            case "not": {
                Cond inner = single(depth + 1);
                return s -> !inner.of(s);
            }
            case "(": {
                Cond inner = cond(depth + 1);
                need(")");
                return inner;
            }
            case "once": return s -> kitchen.slices.get(s).once();
            case "done": return s -> (done() >> s & 1) == 1;
            case "after": {
                int other = sliceNamed();
                at++;
                return s -> endsOf(s) > endsOf(other) && endsOf(other) > 0;
            }
            default: return measure(word);
        }
    }

    private Cond measure(String word) {
        String sign = peek().text();
        if (!List.of("<", "=", ">").contains(sign)) {
            throw new Fault(1, peek().place());
        }
        at++;
        int n = number(0, 999);
        return s -> {
            int x = switch (word) {
                case "top" -> kitchen.slices.get(s).top();
                case "under" -> kitchen.slices.get(s).under();
                case "goes" -> (int) plan.stream().filter(g -> g.slice() == s).count();
                default -> endsOf(s);
            };
            return sign.equals("<") ? x < n : sign.equals("=") ? x == n : x > n;
        };
    }

    private int endsOf(int s) {
        return plan.stream().filter(g -> g.slice() == s).mapToInt(Go::end).max().orElse(0);
    }

    int said(int k) {
        if (sentence == null) {
            return -1;
        }
        List<Integer> those = new ArrayList<>();
        for (int s = 0; s < kitchen.slices.size(); s++) {
            if (sentence.of(s)) {
                those.add(s);
            }
        }
        return k == -1 ? those.size() : k >= 0 && k < those.size() ? those.get(k) : -1;
    }

    // ---- the PLAN ----

    private void adopt(List<Go> made) {
        back.add(plan);
        if (back.size() > 8) {
            back.remove(0);
        }
        plan = new ArrayList<>(made);
    }

    int wrong(List<Go> ahead, Go g) {
        Slice slice = kitchen.slices.get(g.slice());
        int had = 0;
        boolean[] kinds = new boolean[6];
        for (Go h : ahead) {
            boolean meets = h.minute() < g.end() && g.minute() < h.end();
            boolean same = h.slice() == g.slice();
            kinds[1] |= meets && h.place() == g.place();
            kinds[2] |= meets && same;
            if (same && h.side() == g.side()) {
                had += h.n();
                kinds[4] |= slice.once();
            }
            if (same && h.side() != g.side()) {
                int between = h.minute() < g.minute() ? g.minute() - h.end() : h.minute() - g.end();
                kinds[5] |= between < kitchen.rest;
            }
        }
        kinds[3] = had + g.n() > slice.need(g.side());
        for (int kind = 1; kind <= 5; kind++) {
            if (kinds[kind]) {
                return kind;
            }
        }
        return 0;
    }

    int judge() {
        for (int k = 0; k < plan.size(); k++) {
            why = wrong(plan.subList(0, k), plan.get(k));
            if (why != 0) {
                return k;
            }
        }
        why = 0;
        return -1;
    }

    int go(int k, int what) {
        if (k < 0 || k >= plan.size() || what < 0 || what > 4) {
            return -1;
        }
        Go g = plan.get(k);
        return new int[] {g.slice(), g.side(), g.minute(), g.place(), g.n()}[what];
    }

    int left(int s, int side) {
        if (s < 0 || s >= kitchen.slices.size() || side < 0 || side > 1) {
            throw new NoSuchElementException();
        }
        int had = plan.stream().filter(g -> g.slice() == s && g.side() == side).mapToInt(Go::n).sum();
        return kitchen.slices.get(s).need(side) - had;
    }

    int ends() {
        return plan.stream().mapToInt(Go::end).max().orElse(0);
    }

    int done() {
        int bits = 0;
        for (int s = 0; s < kitchen.slices.size(); s++) {
            bits |= left(s, 0) <= 0 && left(s, 1) <= 0 ? 1 << s : 0;
        }
        return bits;
    }

    int on(int minute) {
        if (minute < 0 || minute > 999) {
            return -1;
        }
        int bits = 0;
        for (Go g : plan) {
            bits |= g.minute() <= minute && minute < g.end() ? 1 << g.slice() : 0;
        }
        return bits;
    }

    int write() {
        StringBuilder made = new StringBuilder();
        for (Go g : plan) {
            made.append(kitchen.slices.get(g.slice()).name() + " " + (g.side() == 0 ? "t" : "u") + " " + g.minute() + " "
                + g.place() + " " + g.n() + ";");
        }
        text = made.toString();
        return text.length();
    }

    int byteAt(int i) {
        return i < 0 || i >= text.length() ? -1 : text.charAt(i);
    }

    int add(int s, int side, int minute, int place, int n) {
        if (s < 0 || s >= kitchen.slices.size() || side < 0 || side > 1 || minute < 0 || minute > 240 || place < 0
            || place >= kitchen.places || n < 1 || n > 20 || plan.size() == 400) {
            return -1;
        }
        List<Go> made = new ArrayList<>(plan);
        made.add(new Go(s, side, minute, place, n));
        adopt(made);
        return plan.size() - 1;
    }

    boolean drop(int k) {
        if (k < 0 || k >= plan.size()) {
            return false;
        }
        List<Go> made = new ArrayList<>(plan);
        made.remove(k);
        adopt(made);
        return true;
    }

    boolean later(int k, int by) {
        if (k < 0 || k >= plan.size() || by == 0 || by > 1000 || by < -1000) {
            return false;
        }
        int minute = plan.get(k).minute() + by;
        if (minute < 0 || minute > 900) {
            return false;
        }
        List<Go> made = new ArrayList<>(plan);
        made.set(k, plan.get(k).at(minute));
        adopt(made);
        return true;
    }

    int early() {
        List<Go> made = new ArrayList<>();
        int moved = 0;
        for (Go g : plan) {
            Go now = g;
            for (int minute = 0; minute < g.minute(); minute++) {
                if (wrong(made, g.at(minute)) == 0) {
                    now = g.at(minute);
                    moved++;
                    break;
                }
            }
            made.add(now);
        }
        if (moved > 0) {
            adopt(made);
        }
        return moved;
    }

    int undo() {
        if (back.isEmpty()) {
            return -1;
        }
        plan = back.remove(back.size() - 1);
        return back.size();
    }

    int idle(int place) {
        if (place < 0 || place >= kitchen.places) {
            return -1;
        }
        int free = 0;
        for (int minute = 0; minute < ends(); minute++) {
            int now = minute;
            if (plan.stream().noneMatch(g -> g.place() == place && g.minute() <= now && now < g.end())) {
                free++;
            }
        }
        return free;
    }

    int forgotten() {
        for (int side = 0; side < 2 * kitchen.slices.size(); side++) {
            if (left(side / 2, side % 2) > 0) {
                return side;
            }
        }
        return -1;
    }

    // ---- PLANS that are made ----

    int longest() {
        return kitchen.slices.stream().mapToInt(s -> s.top() + s.under()).max().orElse(0);
    }

    int sum(int side) {
        return kitchen.slices.stream().mapToInt(s -> s.need(side)).sum();
    }

    int bound(int what) {
        switch (what) {
            case 0: return longest();
            case 1: return (int) Math.ceil((sum(0) + sum(1)) / (double) kitchen.places);
            case 2: return sum(0);
            case 3: return sum(1);
            default: return -1;
        }
    }

    int several() {
        if (kitchen.slices.isEmpty()) {
            return -1;
        }
        int minutes = Math.max(bound(0), bound(1));
        List<Go> made = new ArrayList<>();
        int t = 0;
        for (int side = 0; side < 2 * kitchen.slices.size(); side++) {
            for (int i = 0; i < kitchen.slices.get(side / 2).need(side % 2); i++, t++) {
                putMinute(made, side, t % minutes, t / minutes);
            }
        }
        adopt(made);
        return minutes;
    }

    /** A minute of a side on a PLACE: of the same GO if that ended just there. */
    private static void putMinute(List<Go> made, int side, int minute, int place) {
        for (int k = 0; k < made.size(); k++) {
            Go g = made.get(k);
            if (g.slice() * 2 + g.side() == side && g.place() == place && g.end() == minute) {
                made.set(k, new Go(g.slice(), g.side(), g.minute(), place, g.n() + 1));
                return;
            }
        }
        made.add(new Go(side / 2, side % 2, minute, place, 1));
    }

    private int[] bestOrder;
    private int[] bestBegins;
    private int bestEnds;

    int one() {
        int sides = 2 * kitchen.slices.size();
        if (sides == 0 || sides > 8) {
            return -1;
        }
        bestEnds = Integer.MAX_VALUE;
        orders(new int[sides], new int[sides], 0, 0, new int[400]);
        List<Go> made = new ArrayList<>();
        for (int minute = 0; minute < bestEnds; minute++) {
            for (int side : bestOrder) {
                if (bestBegins[side] == minute) {
                    int now = minute;
                    int place = 0;
                    while (true) {
                        int p = place;
                        if (made.stream().noneMatch(g -> g.place() == p && g.minute() <= now && now < g.end())) {
                            break;
                        }
                        place++;
                    }
                    made.add(new Go(side / 2, side % 2, minute, place, kitchen.slices.get(side / 2).need(side % 2)));
                }
            }
        }
        adopt(made);
        return bestEnds;
    }

    private void orders(int[] order, int[] begins, int depth, int used, int[] on) {
        if (depth == order.length) {
            int ends = 0;
            for (int side : order) {
                ends = Math.max(ends, begins[side] + kitchen.slices.get(side / 2).need(side % 2));
            }
            if (ends < bestEnds) {
                bestEnds = ends;
                bestOrder = order.clone();
                bestBegins = begins.clone();
            }
            return;
        }
        for (int side = 0; side < order.length; side++) {
            if ((used >> side & 1) != 0) {
                continue;
            }
            int n = kitchen.slices.get(side / 2).need(side % 2);
            int minute = 0;
            while (!fits(side, n, minute, begins, used, on)) {
                minute++;
            }
            order[depth] = side;
            begins[side] = minute;
            for (int t = minute; t < minute + n; t++) {
                on[t]++;
            }
            orders(order, begins, depth + 1, used | 1 << side, on);
            for (int t = minute; t < minute + n; t++) {
                on[t]--;
            }
        }
    }

    private boolean fits(int side, int n, int minute, int[] begins, int used, int[] on) {
        for (int t = minute; t < minute + n; t++) {
            if (on[t] >= kitchen.places) {
                return false;
            }
        }
        int other = side ^ 1;
        if ((used >> other & 1) == 0) {
            return true;
        }
        int end = begins[other] + kitchen.slices.get(other / 2).need(other % 2);
        return minute >= end + kitchen.rest || minute + n + kitchen.rest <= begins[other];
    }

    int masters() {
        if (kitchen.slices.isEmpty()) {
            return -1;
        }
        List<Go> made = new ArrayList<>();
        for (int minute = 0; made.size() < 2 * kitchen.slices.size(); minute++) {
            for (int place = 0; place < 2; place++) {
                int s = master(made, minute, place);
                if (s >= 0) {
                    made.add(new Go(s, place, minute, place, kitchen.slices.get(s).need(place)));
                }
            }
        }
        adopt(made);
        return ends();
    }

    private int master(List<Go> made, int minute, int place) {
        if (made.stream().anyMatch(g -> g.place() == place && g.end() > minute)) {
            return -1;
        }
        int found = -1;
        for (int i = 0; i < kitchen.slices.size(); i++) {
            int s = i;
            if (made.stream().noneMatch(g -> g.slice() == s)
                && (found < 0 || kitchen.slices.get(s).need(1 - place) > kitchen.slices.get(found).need(1 - place))) {
                found = s;
            }
        }
        for (int i = 0; i < kitchen.slices.size() && found < 0; i++) {
            int s = i;
            boolean come = made.stream().anyMatch(g -> g.slice() == s && g.side() == place);
            boolean on = made.stream().anyMatch(g -> g.slice() == s && g.end() > minute);
            if (!come && !on) {
                found = s;
            }
        }
        return found;
    }

    /** A row for each minute: the side on each PLACE, or -1. */
    List<int[]> cooked(int rule) {
        List<int[]> rows = new ArrayList<>();
        int sum = sum(0) + sum(1);
        while (had(rows, -2) < sum) {
            int[] now = new int[kitchen.places];
            Arrays.fill(now, -1);
            int[] ahead = rows.isEmpty() ? now.clone() : rows.get(rows.size() - 1);
            for (int p = 0; p < now.length; p++) {
                if (ahead[p] >= 0 && kitchen.slices.get(ahead[p] / 2).once() && lacks(rows, ahead[p]) > 0) {
                    now[p] = ahead[p];
                }
            }
            while (indexOf(now, -1) >= 0) {
                int side = liked(rows, now, rule);
                if (side < 0) {
                    break;
                }
                int stay = indexOf(ahead, side);
                now[stay >= 0 && now[stay] == -1 ? stay : indexOf(now, -1)] = side;
            }
            rows.add(now);
        }
        return rows;
    }

    private static int indexOf(int[] row, int what) {
        for (int i = 0; i < row.length; i++) {
            if (row[i] == what) {
                return i;
            }
        }
        return -1;
    }

    private static int had(List<int[]> rows, int side) {
        int n = 0;
        for (int[] row : rows) {
            for (int x : row) {
                n += x == side || side == -2 && x >= 0 ? 1 : 0;
            }
        }
        return n;
    }

    private int lacks(List<int[]> rows, int side) {
        return kitchen.slices.get(side / 2).need(side % 2) - had(rows, side);
    }

    private int liked(List<int[]> rows, int[] now, int rule) {
        int best = -1;
        int liking = -1;
        for (int s = 0; s < kitchen.slices.size(); s++) {
            int top = lacks(rows, 2 * s);
            int under = lacks(rows, 2 * s + 1);
            if (indexOf(now, 2 * s) >= 0 || indexOf(now, 2 * s + 1) >= 0 || top + under == 0) {
                continue;
            }
            int side = top > 0 && had(rows, 2 * s) > 0 ? 2 * s : under > 0 && had(rows, 2 * s + 1) > 0 ? 2 * s + 1
                : top > 0 ? 2 * s : 2 * s + 1;
            if (had(rows, side) == 0 && had(rows, side ^ 1) > 0) {
                int last = rows.size() - 1;
                while (indexOf(rows.get(last), side ^ 1) < 0) {
                    last--;
                }
                if (rows.size() - 1 - last < kitchen.rest) {
                    continue;
                }
            }
            int likes = rule == 0 ? 0 : rule == 1 ? top + under : top == 0 || under == 0 ? 1 : 0;
            if (likes > liking) {
                liking = likes;
                best = side;
            }
        }
        return best;
    }

    int cook(int rule) {
        if (kitchen.slices.isEmpty() || rule < 0 || rule > 2) {
            return -1;
        }
        List<int[]> rows = cooked(rule);
        List<Go> made = new ArrayList<>();
        for (int t = 0; t < rows.size(); t++) {
            for (int p = 0; p < kitchen.places; p++) {
                if (rows.get(t)[p] >= 0) {
                    putMinute(made, rows.get(t)[p], t, p);
                }
            }
        }
        adopt(made);
        return rows.size();
    }

    int best() {
        if (kitchen.slices.isEmpty()) {
            return -1;
        }
        int found = 0;
        for (int rule = 1; rule < 3; rule++) {
            if (cooked(rule).size() < cooked(found).size()) {
                found = rule;
            }
        }
        return found;
    }

    // ---- alike, SERVED, MEAN, HOTEL, BROWN, MORNING ----

    /** PLACES are tried one by one: each takes sides one behind the other while they end in time. */
    static int fewest(int n, int minutes, int all) {
        if (n < 1 || n > 4000 || minutes < 1 || minutes > 20 || all < 1 || all > 999 || 2 * minutes > all) {
            return -1;
        }
        int places = 0;
        int sides = 0;
        while (sides < 2 * n) {
            places++;
            for (int end = minutes; end <= all; end += minutes) {
                sides++;
            }
        }
        return places;
    }

    static int alike(int n, int k) {
        if (n < 1 || n > 4000 || k < 1 || k > 60) {
            return -1;
        }
        int minutes = 2;
        while (minutes * k < 2 * n) {
            minutes++;
        }
        return minutes;
    }

    static int alikeAt(int n, int k, int minute, int place) {
        int minutes = alike(n, k);
        if (minutes < 0 || minute < 0 || minute >= minutes || place < 0 || place >= k) {
            return -1;
        }
        for (int side = 0; side < 2 * n; side++) {
            if (side / minutes == place && side % minutes == minute) {
                return side;
            }
        }
        return -1;
    }

    int served(int minutes) {
        if (minutes < 1 || minutes > 40) {
            return -1;
        }
        servedMinutes = new HashMap<>();
        Map<Integer, Integer> memo = new HashMap<>();
        int most = mostWorth(minutes, 1, 0, memo);
        int set = 0;
        for (int e = 1; e * minutes < 340; e++) {
            int due = mostWorth(minutes, e, set, memo);
            for (int now = 0; now < 1 << kitchen.guests.size(); now++) {
                if ((now & set) == 0 && Integer.bitCount(now) <= kitchen.places
                    && worth(now, e * minutes) + mostWorth(minutes, e + 1, set | now, memo) == due) {
                    for (int g = 0; g < 8; g++) {
                        if ((now >> g & 1) == 1) {
                            servedMinutes.put(g, e * minutes);
                        }
                    }
                    set |= now;
                    break;
                }
            }
        }
        return most;
    }

    private int worth(int set, int minute) {
        int sum = 0;
        for (int g = 0; g < kitchen.guests.size(); g++) {
            Guest guest = kitchen.guests.get(g);
            if ((set >> g & 1) == 1 && guest.comes() - minute <= kitchen.cold) {
                int behind = minute > guest.comes() ? minute - guest.comes() : 0;
                sum += guest.worth() > behind ? guest.worth() - behind : 0;
            }
        }
        return sum;
    }

    private int mostWorth(int minutes, int e, int set, Map<Integer, Integer> memo) {
        if (e * minutes >= 340) {
            return 0;
        }
        Integer known = memo.get(e * 256 + set);
        if (known != null) {
            return known;
        }
        int most = 0;
        for (int now = 0; now < 1 << kitchen.guests.size(); now++) {
            if ((now & set) == 0 && Integer.bitCount(now) <= kitchen.places) {
                most = Math.max(most, worth(now, e * minutes) + mostWorth(minutes, e + 1, set | now, memo));
            }
        }
        memo.put(e * 256 + set, most);
        return most;
    }

    int servedAt(int g) {
        return servedMinutes.getOrDefault(g, -1);
    }

    long mean(int s, int what) {
        if (s < 0 || s >= kitchen.slices.size() || what < 0 || what > 1) {
            throw new NoSuchElementException();
        }
        // The mean x is top + k/m x + (1 - k/m) (under + k/m x): x (mm - km - (m-k) k) = top mm + under (m-k) m.
        int k = kitchen.k;
        int m = kitchen.m;
        long below = m * m - k * m - (m - k) * k;
        long above = kitchen.slices.get(s).top() * m * m + kitchen.slices.get(s).under() * (m - k) * m;
        for (long d = below; d > 1; d--) {
            if (below % d == 0 && above % d == 0) {
                below /= d;
                above /= d;
            }
        }
        return what == 0 ? above : below;
    }

    int hotel(int n, int minutes, int all) {
        int wanted = n > 200 || all > 400 ? -1 : fewest(n, minutes, all);
        if (wanted < 0 || kitchen.sorts.isEmpty()) {
            return -1;
        }
        TreeMap<Integer, int[]> found = new TreeMap<>();
        rows(new int[kitchen.sorts.size()], 0, wanted, 0, found);
        pans = found.firstEntry().getValue();
        return found.firstKey();
    }

    /** Rows from the least on, so the first of a COST is the one to be kept. */
    private void rows(int[] row, int k, int wanted, int cost, TreeMap<Integer, int[]> found) {
        if (!found.isEmpty() && cost >= found.firstKey()) {
            return;
        }
        if (wanted <= 0) {
            int[] made = row.clone();
            Arrays.fill(made, k, made.length, 0);
            found.put(cost, made);
            return;
        }
        if (k == row.length) {
            return;
        }
        Sort sort = kitchen.sorts.get(k);
        for (int c = 0; c <= wanted && (c == 0 || (c - 1) * sort.places() < wanted); c++) {
            row[k] = c;
            rows(row, k + 1, wanted - c * sort.places(), cost + c * sort.cost(), found);
        }
    }

    int pans(int k) {
        return pans == null || k < 0 || k >= pans.length ? -1 : pans[k];
    }

    long brown(int m, int p) {
        byte[] told = tape;
        tape = new byte[0];
        boolean right = m >= 0 && m <= 10 && p >= 1 && p <= 4 && told.length >= 1 && told.length <= 5;
        for (byte b : told) {
            right &= b >= 0 && b <= 3;
        }
        if (!right) {
            return -1;
        }
        int want = 0;
        for (int s = 0; s < told.length; s++) {
            want |= told[s] << 2 * s;
        }
        // Sets of sides, minute by minute.
        Map<Integer, Long> ways = new HashMap<>();
        ways.put(0, 1L);
        for (int t = 0; t < m; t++) {
            Map<Integer, Long> next = new HashMap<>();
            for (Map.Entry<Integer, Long> e : ways.entrySet()) {
                int open = want & ~e.getKey();
                for (int now = open; ; now = now - 1 & open) {
                    if (Integer.bitCount(now) <= p && (now & now >> 1 & 0x155) == 0) {
                        next.merge(e.getKey() | now, e.getValue(), Long::sum);
                    }
                    if (now == 0) {
                        break;
                    }
                }
            }
            ways = next;
        }
        return ways.getOrDefault(want, 0L);
    }

    int morning(int seed) {
        if (kitchen.slices.isEmpty()) {
            return -1;
        }
        int x = seed;
        int[] lacks = new int[2 * kitchen.slices.size()];
        for (int side = 0; side < lacks.length; side++) {
            lacks[side] = kitchen.slices.get(side / 2).need(side % 2);
        }
        int minutes = 0;
        while (Arrays.stream(lacks).sum() > 0) {
            List<Integer> on = new ArrayList<>();
            for (int p = 0; p < kitchen.places; p++) {
                List<Integer> those = new ArrayList<>();
                for (int s = 0; s < kitchen.slices.size(); s++) {
                    if (!on.contains(s) && lacks[2 * s] + lacks[2 * s + 1] > 0) {
                        those.add(s);
                    }
                }
                if (those.isEmpty()) {
                    continue;
                }
                x = (int) (x * 1103515245L + 12345L);
                int s = those.get((x >>> 8) % those.size());
                int side = lacks[2 * s] == 0 ? 1 : 0;
                if (lacks[2 * s] > 0 && lacks[2 * s + 1] > 0) {
                    x = (int) (x * 1103515245L + 12345L);
                    side = (x >>> 8) % 2;
                }
                on.add(s);
                lacks[2 * s + side]--;
            }
            minutes++;
        }
        return minutes;
    }

    int mornings(int n, int seed) {
        if (kitchen.slices.isEmpty() || n < 1 || n > 100) {
            return -1;
        }
        int least = Integer.MAX_VALUE;
        for (int i = 0; i < n; i++) {
            least = Math.min(least, morning(seed + i));
        }
        return least;
    }

    // ---- the rest ----

    int slice(int s, int what) {
        if (s < 0 || s >= kitchen.slices.size() || what < 0 || what > 2) {
            throw new NoSuchElementException();
        }
        Slice slice = kitchen.slices.get(s);
        return what == 2 ? slice.once() ? 1 : 0 : slice.need(what);
    }

    int guest(int g, int what) {
        if (g < 0 || g >= kitchen.guests.size() || what < 0 || what > 1) {
            throw new NoSuchElementException();
        }
        return what == 0 ? kitchen.guests.get(g).comes() : kitchen.guests.get(g).worth();
    }

    int sort(int k, int what) {
        if (k < 0 || k >= kitchen.sorts.size() || what < 0 || what > 1) {
            throw new NoSuchElementException();
        }
        return what == 0 ? kitchen.sorts.get(k).places() : kitchen.sorts.get(k).cost();
    }

    boolean image(int k) {
        if (k != 0 && k != 1) {
            return false;
        }
        images[k] = new Object[] {kitchen, plan, sentence};
        return true;
    }

    @SuppressWarnings("unchecked")
    boolean restore(int k) {
        if (k != 0 && k != 1 || images[k] == null) {
            return false;
        }
        kitchen = (Kitchen) images[k][0];
        plan = (List<Go>) images[k][1];
        sentence = (Cond) images[k][2];
        back.clear();
        return true;
    }

    int count(int what) {
        int[] all = {kitchen.places, kitchen.rest, kitchen.cold, kitchen.slices.size(), kitchen.guests.size(),
            kitchen.sorts.size(), plan.size(), tape.length};
        return what < 0 || what > 7 ? -1 : all[what];
    }
}
