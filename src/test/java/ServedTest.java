import java.util.Arrays;
import java.util.Random;

/** SERVED against every set of GUESTS at every end of the day, one by one. */
public final class ServedTest {
    private static final int LAST_MINUTE = 240 + 99;

    private final Random random = new Random(33);
    private final int[] comes = new int[8];
    private final int[] worth = new int[8];
    private final int[] at = new int[8];
    /** Of an end and the GUESTS served ahead of it: the most WORTH from there on. */
    private final int[][] most = new int[LAST_MINUTE + 2][256];
    private final int[] gain = new int[256];
    private int guests;
    private int places;
    private int cold;

    private ServedTest() { }

    public static void main(String[] args) {
        ServedTest days = new ServedTest();
        for (int i = 0; i < 500; i++) {
            days.drawAndLook();
        }
        Check.close("ServedTest");
    }

    private int oneOf(int... numbers) {
        return numbers[random.nextInt(numbers.length)];
    }

    private void drawAndLook() {
        guests = oneOf(8, 8, 8, random.nextInt(9));
        places = oneOf(1, 1, 2, 3, 4);
        cold = oneOf(0, 3, 10, 99, random.nextInt(100));
        int spread = oneOf(0, 3, 10, 40, 240);
        int from = random.nextInt(241 - spread);
        int mostWorth = oneOf(3, 10, 99);
        StringBuilder text = new StringBuilder("pan ").append(places).append(";cold ").append(cold).append(';');
        for (int g = 0; g < guests; g++) {
            comes[g] = from + random.nextInt(spread + 1);
            worth[g] = random.nextInt(mostWorth + 1);
            text.append("guest ").append((char) ('a' + g)).append(' ').append(comes[g]).append(' ').append(worth[g]).append(';');
        }
        PanSlices x = Check.with(text.toString());
        look(x, 1 + random.nextInt(3), text.toString());
        look(x, 1 + random.nextInt(40), text.toString());
    }

    private void look(PanSlices x, int minutes, String text) {
        int due = weighAll(minutes);
        Check.due("served " + minutes + " of " + text, x.served(minutes), due);
        for (int g = 0; g < 9; g++) {
            Check.due("guest " + g + " by " + minutes + " of " + text, x.servedAt(g), g < guests ? at[g] : -1);
        }
    }

    private int worthAt(int g, int minute) {
        if (comes[g] - minute > cold) {
            return 0;
        }
        return Math.max(0, worth[g] - Math.max(0, minute - comes[g]));
    }

    private void weigh(int minute) {
        for (int set = 1; set < 1 << guests; set++) {
            gain[set] = gain[set & set - 1] + worthAt(Integer.numberOfTrailingZeros(set), minute);
        }
    }

    private boolean canBe(int now, int ahead) {
        return (now & ahead) == 0 && Integer.bitCount(now) <= places;
    }

    private int weighAll(int minutes) {
        int ends = LAST_MINUTE / minutes + 1;
        int sets = 1 << guests;
        Arrays.fill(most[ends], 0);
        for (int e = ends - 1; e >= 1; e--) {
            weigh(e * minutes);
            for (int ahead = 0; ahead < sets; ahead++) {
                most[e][ahead] = most[e + 1][ahead];
                int open = sets - 1 & ~ahead;
                for (int now = open; now > 0; now = now - 1 & open) {
                    if (canBe(now, ahead)) {
                        most[e][ahead] = Math.max(most[e][ahead], gain[now] + most[e + 1][ahead | now]);
                    }
                }
            }
        }
        trace(minutes, ends);
        return ends > 1 ? most[1][0] : 0;
    }

    private void trace(int minutes, int ends) {
        Arrays.fill(at, -1);
        int ahead = 0;
        for (int e = 1; e < ends; e++) {
            weigh(e * minutes);
            int now = 0;
            while (!canBe(now, ahead) || gain[now] + most[e + 1][ahead | now] != most[e][ahead]) {
                now++;
            }
            for (int g = 0; g < guests; g++) {
                at[g] = (now >> g & 1) == 1 ? e * minutes : at[g];
            }
            ahead |= now;
        }
    }
}
