import java.util.NoSuchElementException;

/** All that can be seen of an object, as a text with a line for each thing; two objects alike have two texts alike. */
final class Look {
    private Look() { }

    /** What can be asked without changing anything. */
    static String at(PanSlices x) {
        StringBuilder t = new StringBuilder();
        t.append("fault: ").append(x.fault()).append('\n');
        t.append("why: ").append(x.why()).append('\n');
        t.append("tape: ").append(x.count(7)).append('\n');
        t.append("kitchen:");
        for (int what = 0; what < 6; what++) {
            t.append(' ').append(x.count(what));
        }
        for (int what = 0; what < 4; what++) {
            t.append(' ').append(x.bound(what));
        }
        for (int i = 0; i < 9; i++) {
            for (int what = 0; what < 3; what++) {
                t.append(' ').append(parts(x, i, what));
            }
        }
        t.append("\nplan: ").append(x.count(6)).append(' ').append(x.ends()).append(' ').append(x.done());
        t.append(' ').append(x.forgotten());
        for (int k = 0; k < x.count(6); k++) {
            for (int what = 0; what < 5; what++) {
                t.append(' ').append(x.go(k, what));
            }
        }
        for (int place = 0; place < 4; place++) {
            t.append(' ').append(x.idle(place));
        }
        for (int minute = 0; minute < 60; minute++) {
            t.append(' ').append(x.on(minute));
        }
        t.append("\ntext: ");
        for (int i = 0; x.byteAt(i) >= 0; i++) {
            t.append((char) x.byteAt(i));
        }
        t.append("\nserved:");
        for (int g = 0; g < 9; g++) {
            t.append(' ').append(x.servedAt(g));
        }
        t.append("\npans:");
        for (int k = 0; k < 6; k++) {
            t.append(' ').append(x.pans(k));
        }
        t.append("\nsaid:");
        for (int k = -1; k < 9; k++) {
            t.append(' ').append(x.said(k));
        }
        return t.append('\n').toString();
    }

    private static String parts(PanSlices x, int i, int what) {
        return asked(() -> x.slice(i, what)) + "," + asked(() -> x.guest(i, what)) + "," + asked(() -> x.sort(i, what)) + ","
            + asked(() -> x.left(i, what)) + "," + asked(() -> x.mean(i, what));
    }

    private static String asked(Check.Call call) {
        try {
            return Long.toString(call.answer());
        } catch (NoSuchElementException e) {
            return "none";
        }
    }

    /** All of it, with what is only seen by changing it: NAMES, what can come back, images, and the bytes of the tape. */
    static String through(PanSlices x) {
        StringBuilder t = new StringBuilder(at(x));
        t.append("drawn: ").append(x.morning(7)).append(' ').append(x.best()).append('\n');
        t.append("judged: ").append(x.judge()).append(' ').append(x.why()).append('\n');
        t.append("written: ").append(Check.written(x)).append('\n');
        boolean more = true;
        for (int i = 0; i < 12 && more; i++) {
            int left = x.undo();
            more = left >= 0;
            t.append("back: ").append(left).append(' ').append(Check.written(x)).append('\n').append(at(x));
        }
        for (int k = 0; k < 2; k++) {
            t.append("restored: ").append(x.restore(k)).append(' ').append(Check.written(x)).append('\n').append(at(x));
            t.append("back: ").append(x.undo()).append('\n');
        }
        t.append("taped: ").append(x.kitchen()).append('\n').append(at(x));
        return t.toString();
    }

    /** A look without the lines of these things. */
    static String but(String look, String... things) {
        String rest = look;
        for (String thing : things) {
            rest = rest.replaceAll("(?m)^" + thing + ":.*\n", "");
        }
        return rest;
    }
}
