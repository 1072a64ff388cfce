import java.nio.charset.StandardCharsets;
import java.util.NoSuchElementException;

/** What the tests share: a kitchen fed as a text, and answers held against those due. */
final class Check {
    interface Call {
        long answer();
    }

    private static int wrong = 0;
    private static int looked = 0;

    private Check() { }

    static void due(String what, long got, long want) {
        looked++;
        if (got != want) {
            wrong++;
            if (wrong <= 50) {
                System.out.println(what + " answered " + got + ", due is " + want);
            }
        }
    }

    static void due(String what, boolean got, boolean want) {
        due(what, got ? 1 : 0, want ? 1 : 0);
    }

    static void throwsNoSuch(String what, Call call) {
        looked++;
        try {
            long got = call.answer();
            wrong++;
            System.out.println(what + " answered " + got + ", due is NoSuchElementException");
        } catch (NoSuchElementException e) {
            // That is what is due.
        }
    }

    static boolean anyWrong() {
        return wrong > 0;
    }

    /** Ends the test: exit code 1 if an answer was not the one due, or none was looked at. */
    static void close(String name) {
        System.out.println(name + ": " + looked + " answers looked at, " + wrong + " not as due");
        if (wrong > 0 || looked == 0) {
            System.exit(1);
        }
    }

    static byte[] bytes(String text) {
        return text.getBytes(StandardCharsets.ISO_8859_1);
    }

    /** The five numbers of the twenty bytes from a place on; behind the end letters, which nobody may see. */
    static int[] numbers(byte[] bytes, int from) {
        int[] five = new int[5];
        for (int i = 0; i < 20; i++) {
            int b = from + i < bytes.length ? bytes[from + i] & 255 : 'z';
            five[i / 4] = five[i / 4] << 8 | b;
        }
        return five;
    }

    static void feed(PanSlices x, String text) {
        feed(x, bytes(text));
    }

    static void feed(PanSlices x, byte[] bytes) {
        x.end(0);
        for (int i = 0; i < bytes.length; i += 20) {
            int[] n = numbers(bytes, i);
            x.feed(n[0], n[1], n[2], n[3], n[4]);
        }
        x.end(bytes.length);
    }

    static int kitchen(PanSlices x, String text) {
        feed(x, text);
        return x.kitchen();
    }

    static int plan(PanSlices x, String text) {
        feed(x, text);
        return x.plan();
    }

    static int sentence(PanSlices x, String text) {
        feed(x, text);
        return x.sentence();
    }

    static PanSlices with(String kitchen) {
        PanSlices x = new PanSlices();
        int lines = kitchen(x, kitchen);
        if (lines < 0) {
            due("kitchen " + kitchen, lines, 0);
        }
        return x;
    }

    static String written(PanSlices x) {
        int n = x.write();
        StringBuilder made = new StringBuilder();
        for (int i = 0; i < n; i++) {
            made.append((char) x.byteAt(i));
        }
        return made.toString();
    }

    static void dueText(String what, String got, String want) {
        looked++;
        if (!got.equals(want)) {
            wrong++;
            String[] gotLines = got.split("\n", -1);
            String[] wantLines = want.split("\n", -1);
            int i = 0;
            while (i + 1 < Math.min(gotLines.length, wantLines.length) && gotLines[i].equals(wantLines[i])) {
                i++;
            }
            if (wrong <= 50) {
                System.out.println(what + " answered " + gotLines[i] + ", due is " + wantLines[i]);
            }
        }
    }
}
