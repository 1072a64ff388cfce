import java.util.Arrays;

/** ONE against every order of the sides, for all small kitchens: the minutes, and the very order that is the first. */
public final class OneTest {
    private final int[] need = new int[8];
    private final int[] on = new int[300];
    private final int[] begins = new int[8];
    private final int[] order = new int[8];
    private final int[] bestBegins = new int[8];
    private final int[] bestOrder = new int[8];
    private int sides;
    private int places;
    private int rest;
    private int best;

    private OneTest() { }

    public static void main(String[] args) {
        OneTest orders = new OneTest();
        orders.allKitchens(1, 5, new int[] {0, 1, 2, 5, 9});
        orders.allKitchens(2, 4, new int[] {0, 1, 2, 3, 4, 8, 9});
        orders.allKitchens(3, 3, new int[] {0, 1, 2, 3});
        orders.allKitchens(4, 2, new int[] {0, 2});
        Check.close("OneTest");
    }

    /** All minutes of all sides, from 1 to a few; four SLICES on few PLACES alone, as there are many orders. */
    private void allKitchens(int slices, int most, int[] rests) {
        sides = 2 * slices;
        Arrays.fill(need, 0, sides, 1);
        boolean more = true;
        while (more) {
            for (places = 1; places <= (slices == 4 ? 2 : 4); places++) {
                for (int some : rests) {
                    rest = some;
                    look();
                }
            }
            more = false;
            for (int side = 0; side < sides && !more; side++) {
                more = need[side] < most;
                need[side] = more ? need[side] + 1 : 1;
            }
        }
    }

    private void look() {
        StringBuilder text = new StringBuilder("pan ").append(places).append(";rest ").append(rest).append(';');
        for (int side = 0; side < sides; side += 2) {
            text.append("slice ").append((char) ('a' + side / 2)).append(' ').append(need[side]).append(' ');
            text.append(need[side + 1]).append(';');
        }
        PanSlices x = Check.with(text.toString());
        best = Integer.MAX_VALUE;
        Arrays.fill(begins, -1);
        tryAll(0, 0);
        Check.due("one of " + text, x.one(), best);
        Check.dueText("one of " + text, Check.written(x), plan());
    }

    /** Orders from the least on; those that end no earlier than one ahead of them are not looked at to their end. */
    private void tryAll(int depth, int ends) {
        if (ends >= best) {
            return;
        }
        if (depth == sides) {
            best = ends;
            System.arraycopy(begins, 0, bestBegins, 0, sides);
            System.arraycopy(order, 0, bestOrder, 0, sides);
            return;
        }
        for (int side = 0; side < sides; side++) {
            if (begins[side] < 0) {
                int minute = 0;
                while (!fits(side, minute)) {
                    minute++;
                }
                begins[side] = minute;
                order[depth] = side;
                put(side, 1);
                tryAll(depth + 1, Math.max(ends, minute + need[side]));
                put(side, -1);
                begins[side] = -1;
            }
        }
    }

    private boolean fits(int side, int minute) {
        int other = side ^ 1;
        boolean begun = begins[other] >= 0;
        if (begun && minute < begins[other] + need[other] + rest && minute + need[side] + rest > begins[other]) {
            return false;
        }
        for (int t = minute; t < minute + need[side]; t++) {
            if (on[t] >= places) {
                return false;
            }
        }
        return true;
    }

    private void put(int side, int by) {
        for (int t = begins[side]; t < begins[side] + need[side]; t++) {
            on[t] += by;
        }
    }

    /** The GOES by their minutes, of like ones as they were set, each on the least PLACE that is free. */
    private String plan() {
        StringBuilder made = new StringBuilder();
        int[] freeAt = new int[places];
        for (int minute = 0; minute < best; minute++) {
            for (int i = 0; i < sides; i++) {
                int side = bestOrder[i];
                if (bestBegins[side] == minute) {
                    int place = 0;
                    while (freeAt[place] > minute) {
                        place++;
                    }
                    freeAt[place] = minute + need[side];
                    made.append((char) ('a' + side / 2)).append(side % 2 == 0 ? " t " : " u ").append(minute).append(' ');
                    made.append(place).append(' ').append(need[side]).append(';');
                }
            }
        }
        return made.toString();
    }
}
