import java.util.Random;

/** What an object did before leaves nothing behind in what it makes: one used again and again, and a new one each time. */
public final class AgainTest {
    private AgainTest() { }

    public static void main(String[] args) {
        Random random = new Random(21);
        for (int i = 0; i < 400; i++) {
            again(random, 1 + i % 8);
        }
        Check.close("AgainTest");
    }

    /** Some kitchens one behind the other, in less than 512 calls. */
    private static void again(Random random, int most) {
        PanSlices used = new PanSlices();
        for (int i = 0; i < 6; i++) {
            String kitchen = drawnKitchen(random, 1 + random.nextInt(most));
            PanSlices fresh = Check.with(kitchen);
            Check.due("kitchen " + kitchen, Check.kitchen(used, kitchen) >= 0, true);
            int from = random.nextInt(10);
            for (int k = 0; k < 10; k++) {
                made(used, fresh, kitchen, (from + k) % 10, random.nextInt(40));
            }
        }
    }

    private static String drawnKitchen(Random random, int slices) {
        StringBuilder t = new StringBuilder("pan " + (1 + random.nextInt(4)) + ";rest " + random.nextInt(10) + ";");
        t.append("cold ").append(random.nextInt(100)).append(";");
        int most = random.nextBoolean() ? 3 : 20;
        for (int s = 0; s < slices; s++) {
            t.append("slice ").append((char) ('a' + s)).append(' ').append(1 + random.nextInt(most)).append(' ');
            t.append(1 + random.nextInt(most)).append(random.nextInt(3) == 0 ? " once;" : ";");
            t.append("guest g").append((char) ('a' + s)).append(' ').append(random.nextInt(random.nextBoolean() ? 20 : 241));
            t.append(' ').append(random.nextInt(100)).append(';');
        }
        for (int k = 0; k < 1 + random.nextInt(5); k++) {
            t.append("sort ").append(1 + random.nextInt(9)).append(' ').append(1 + random.nextInt(20)).append(';');
        }
        return t.toString();
    }

    private static void made(PanSlices used, PanSlices fresh, String kitchen, int which, int n) {
        String what = "call " + which + " with " + n + " of " + kitchen;
        Check.due(what, answer(used, which, n), answer(fresh, which, n));
        if (which < 6) {
            Check.dueText(what, Check.written(used), Check.written(fresh));
            Check.due("judge of " + what, used.judge(), fresh.judge());
        }
        for (int i = 0; i < 8 && which == 6; i++) {
            Check.due("guest " + i + " of " + what, used.servedAt(i), fresh.servedAt(i));
        }
        for (int i = 0; i < 5 && which == 7; i++) {
            Check.due("sort " + i + " of " + what, used.pans(i), fresh.pans(i));
        }
    }

    private static long answer(PanSlices x, int which, int n) {
        switch (which) {
            case 0: return x.several();
            case 1: return x.one();
            case 2: return x.masters();
            case 3: return x.cook(0);
            case 4: return x.cook(1);
            case 5: return x.cook(2);
            case 6: return x.served(1 + n);
            case 7: return x.hotel(1 + n, 1 + n % 3, 9 + n);
            case 8: return x.morning(n);
            default: return x.best();
        }
    }
}
