import com.sun.management.ThreadMXBean;
import java.lang.management.ManagementFactory;
import java.util.NoSuchElementException;
import java.util.Random;

/** Rules 7 and 12: no call throws what the document does not name, whatever its numbers; and no call makes objects. */
public final class RoomTest {
    private static final int[] ODD = {Integer.MIN_VALUE, Integer.MIN_VALUE + 1, -1000, -2, -1, 0, 1, 2, 3, 4, 5, 7, 8, 9, 10, 20,
        21, 40, 60, 100, 199, 240, 399, 400, 640, 900, 999, 1000, 4000, Integer.MAX_VALUE - 1, Integer.MAX_VALUE};

    private RoomTest() { }

    public static void main(String[] args) {
        oddNumbers();
        room();
        Check.close("RoomTest");
    }

    private static void oddNumbers() {
        Random random = new Random(3);
        String[] kitchens = {"", "slice a 1 1;", fullKitchen(1), fullKitchen(4)};
        for (int i = 0; i < 400; i++) {
            PanSlices x = Check.with(kitchens[i % kitchens.length]);
            for (int k = 0; k < 120; k++) {
                call(x, random.nextInt(46), random);
            }
        }
    }

    private static String fullKitchen(int places) {
        StringBuilder t = new StringBuilder("pan " + places + ";rest 9;cold 99;burn 19 20;");
        for (int i = 0; i < 8; i++) {
            t.append("slice s").append((char) ('a' + i)).append(" ").append(20 - i % 3);
            t.append(i % 4 == 1 ? " 20 once;" : " 20;");
            t.append("guest g").append((char) ('a' + i)).append(" ").append(100 + i).append(" 99;");
        }
        return t + "sort 1 99;sort 2 99;sort 9 1;sort 3 3;sort 4 4;";
    }

    private static void call(PanSlices x, int which, Random random) {
        int a = ODD[random.nextInt(ODD.length)];
        int b = ODD[random.nextInt(ODD.length)];
        int c = ODD[random.nextInt(ODD.length)];
        int d = ODD[random.nextInt(ODD.length)];
        int e = ODD[random.nextInt(ODD.length)];
        boolean mayThrow = which >= 41;
        String thrown = "";
        try {
            answer(x, which, a, b, c, d, e);
        } catch (NoSuchElementException t) {
            thrown = mayThrow ? "" : t.toString();
        } catch (RuntimeException t) {
            thrown = t.toString();
        }
        Check.dueText("call " + which + " of " + a + " " + b + " " + c + " " + d + " " + e, thrown, "");
    }

    private static long answer(PanSlices x, int which, int a, int b, int c, int d, int e) {
        switch (which) {
            case 0: return x.feed(a, b, c, d, e);
            case 1: return x.end(a) ? 1 : 0;
            case 2: return x.kitchen();
            case 3: return x.fault();
            case 4: return x.plan();
            case 5: return x.judge();
            case 6: return x.why();
            case 7: return x.go(a, b);
            case 8: return x.ends();
            case 9: return x.done();
            case 10: return x.on(a);
            case 11: return x.write();
            case 12: return x.byteAt(a);
            case 13: return x.several();
            case 14: return x.one();
            case 15: return x.masters();
            case 16: return x.cook(a);
            case 17: return x.best();
            case 18: return x.bound(a);
            case 19: return x.add(a, b, c, d, e);
            case 20: return x.drop(a) ? 1 : 0;
            case 21: return x.later(a, b) ? 1 : 0;
            case 22: return x.early();
            case 23: return x.undo();
            case 24: return x.idle(a);
            case 25: return x.forgotten();
            case 26: return x.fewest(a, b, c);
            case 27: return x.alike(a, b);
            case 28: return x.alikeAt(a, b, c, d);
            case 29: return x.served(a);
            case 30: return x.servedAt(a);
            case 31: return x.hotel(a, b, c);
            case 32: return x.pans(a);
            case 33: return x.brown(a, b);
            case 34: return x.morning(a);
            case 35: return x.mornings(a, b);
            case 36: return x.sentence();
            case 37: return x.said(a);
            case 38: return x.image(a) ? 1 : 0;
            case 39: return x.restore(a) ? 1 : 0;
            case 40: return x.count(a);
            case 41: return x.slice(a, b);
            case 42: return x.guest(a, b);
            case 43: return x.sort(a, b);
            case 44: return x.left(a, b);
            default: return x.mean(a, b);
        }
    }

    /** Every call but those that throw, 500 times over, in the room of a few small objects. */
    private static void room() {
        ThreadMXBean threads = (ThreadMXBean) ManagementFactory.getThreadMXBean();
        long self = Thread.currentThread().getId();
        long before = threads.getThreadAllocatedBytes(self);
        PanSlices x = new PanSlices();
        long made = threads.getThreadAllocatedBytes(self) - before;
        Check.due("a new object has less than 300000 bytes: " + made, made < 300000, true);
        byte[] kitchen = Check.bytes(fullKitchen(3));
        byte[] plan = Check.bytes("sa top 0 0 1;sb under 3 1 2;");
        byte[] sentence = Check.bytes("not (once or done) and after sa or ends>3");
        int[][] texts = new int[64][];
        int rows = 0;
        int[] starts = new int[4];
        for (byte[] text : new byte[][] {kitchen, plan, sentence}) {
            for (int i = 0; i < text.length; i += 20) {
                texts[rows++] = Check.numbers(text, i);
            }
            starts[starts[3]++] = text.length;
        }
        round(x, texts, starts);
        before = threads.getThreadAllocatedBytes(self);
        for (int i = 0; i < 100; i++) {
            round(x, texts, starts);
        }
        long used = threads.getThreadAllocatedBytes(self) - before;
        Check.due("100 rounds of all calls make nothing: " + used, used < 2000, true);
    }

    private static void round(PanSlices x, int[][] texts, int[] lengths) {
        int row = 0;
        for (int k = 0; k < 3; k++) {
            x.end(0);
            for (int i = 0; i < lengths[k]; i += 20) {
                int[] n = texts[row++];
                x.feed(n[0], n[1], n[2], n[3], n[4]);
            }
            x.end(lengths[k]);
            answer(x, k == 0 ? 2 : k == 1 ? 4 : 36, 0, 0, 0, 0, 0);
        }
        for (int which = 3; which < 46; which++) {
            if (which != 4 && which != 36) {
                answer(x, which, 1, 1, 2, 1, 1);
            }
        }
    }
}
