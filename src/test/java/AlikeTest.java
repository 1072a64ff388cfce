import java.util.Random;

/** Promises 32 to 42: SLICES alike, GUESTS, chances, HOTEL, BROWN and MORNINGS. */
public final class AlikeTest {
    private AlikeTest() { }

    public static void main(String[] args) {
        fewestPlaces();
        alikeMinutes();
        alikePlaces();
        servedExamples();
        servedTies();
        servedStays();
        servedByTheModel();
        means();
        hotels();
        hotelTies();
        hotelStays();
        browns();
        brownsNotAsTold();
        mornings();
        Check.close("AlikeTest");
    }

    private static void fewestPlaces() {
        PanSlices x = new PanSlices();
        Check.due("three in three", x.fewest(3, 1, 3), 2);
        Check.due("three in two", x.fewest(3, 1, 2), 3);
        Check.due("one after the other", x.fewest(3, 1, 6), 1);
        Check.due("almost", x.fewest(3, 1, 5), 2);
        Check.due("a minute too few", x.fewest(1, 20, 39), -1);
        Check.due("just enough", x.fewest(1, 20, 40), 1);
        Check.due("minutes left over help nothing", x.fewest(3, 2, 5), 3);
        Check.due("the most", x.fewest(4000, 1, 2), 4000);
        Check.due("long", x.fewest(4000, 1, 999), 9);
        int[][] none = {{0, 1, 9}, {4001, 1, 9}, {1, 0, 9}, {1, 21, 99}, {1, 1, 0}, {1, 1, 1000}, {1, 1, -1}};
        for (int[] a : none) {
            Check.due("fewest not as told", x.fewest(a[0], a[1], a[2]), -1);
        }
    }

    private static void alikeMinutes() {
        PanSlices x = new PanSlices();
        Check.due("three, two to a pan", x.alike(3, 2), 3);
        Check.due("one needs two", x.alike(1, 60), 2);
        Check.due("4000 on 1", x.alike(4000, 1), 8000);
        Check.due("cut up", x.alike(5, 3), 4);
        int[][] none = {{0, 1}, {4001, 1}, {1, 0}, {1, 61}, {-1, -1}};
        for (int[] a : none) {
            Check.due("alike not as told", x.alike(a[0], a[1]), -1);
            Check.due("alikeAt not as told", x.alikeAt(a[0], a[1], 0, 0), -1);
        }
    }

    private static void alikePlaces() {
        PanSlices x = new PanSlices();
        // 10 sides in 4 minutes on 3 PLACES: 4, 4, 2.
        int[][] due = {{0, 1, 2, 3}, {4, 5, 6, 7}, {8, 9, -1, -1}};
        for (int place = -1; place <= 3; place++) {
            for (int minute = -1; minute <= 4; minute++) {
                boolean told = place >= 0 && place < 3 && minute >= 0 && minute < 4;
                Check.due("alikeAt " + minute + " " + place, x.alikeAt(5, 3, minute, place), told ? due[place][minute] : -1);
            }
        }
        Check.due("one slice, second place", x.alikeAt(1, 2, 0, 1), -1);
        Check.due("the last side", x.alikeAt(4000, 1, 7999, 0), 7999);
    }

    private static void servedExamples() {
        PanSlices x = Check.with("slice a 1 1;guest g 4 9;guest h 6 5;");
        Check.due("served 2", x.served(2), 14);
        Check.due("g", x.servedAt(0), 4);
        Check.due("h", x.servedAt(1), 6);
        Check.due("served 5", x.served(5), 13);
        Check.due("g a minute late", x.servedAt(0), 5);
        Check.due("h ahead", x.servedAt(1), 5);
        Check.due("no such", x.servedAt(2), -1);
        Check.due("no such", x.servedAt(-1), -1);
        // Cold: done more than so many minutes ahead is worth nothing.
        x = Check.with("cold 3;guest g 13 9;");
        Check.due("three ahead", x.served(10), 9);
        Check.due("at", x.servedAt(0), 10);
        x = Check.with("cold 2;guest g 13 9;");
        Check.due("three ahead is cold, seven late", x.served(10), 2);
        Check.due("at", x.servedAt(0), 20);
        x = Check.with("cold 2;guest g 13 7;");
        Check.due("seven late is worth nothing", x.served(10), 0);
        Check.due("not served", x.servedAt(0), -1);
        // Nothing is done ahead of the first end.
        x = Check.with("guest g 0 40;");
        Check.due("late", x.served(40), 0);
        Check.due("late by 39", x.served(39), 1);
        Check.due("at", x.servedAt(0), 39);
        Check.due("guests come to 240", Check.with("guest g 240 99;").served(1), 99);
    }

    private static void servedTies() {
        // One PLACE, two GUESTS at once: the one served ahead is the lesser as bits.
        PanSlices x = Check.with("pan 1;guest g 5 9;guest h 5 9;");
        Check.due("worth", x.served(1), 18);
        Check.due("the first guest ahead", x.servedAt(0), 4);
        Check.due("the other then", x.servedAt(1), 5);
        // As late as it costs nothing: an empty set is the least.
        x = Check.with("pan 1;cold 99;guest g 50 9;");
        x.served(1);
        Check.due("not ahead of time", x.servedAt(0), 50);
        // A GUEST worth nothing is not served.
        x = Check.with("guest g 5 0;guest h 5 1;");
        Check.due("worth", x.served(5), 1);
        Check.due("none for nothing", x.servedAt(0), -1);
        Check.due("but for one", x.servedAt(1), 5);
        // More GUESTS than PLACES at ends far apart: those worth most.
        x = Check.with("pan 2;cold 0;guest a 40 3;guest b 40 5;guest c 40 4;guest d 40 5;");
        Check.due("worth", x.served(40), 10);
        int[] due = {-1, 40, -1, 40};
        for (int g = 0; g < 4; g++) {
            Check.due("guest " + g, x.servedAt(g), due[g]);
        }
        // Like ones: of three for two PLACES those of the least bits.
        x = Check.with("pan 2;cold 0;guest a 40 5;guest b 40 5;guest c 40 5;");
        Check.due("worth", x.served(40), 10);
        Check.due("a", x.servedAt(0), 40);
        Check.due("b", x.servedAt(1), 40);
        Check.due("c", x.servedAt(2), -1);
    }

    private static void servedStays() {
        PanSlices x = new PanSlices();
        Check.due("ahead of any", x.servedAt(0), -1);
        Check.due("no guests", x.served(1), 0);
        Check.kitchen(x, "guest g 4 9;guest h 8 9;");
        Check.due("no such one then", x.servedAt(0), -1);
        x.served(4);
        Check.due("served 0", x.served(0), -1);
        Check.due("served 41", x.served(41), -1);
        Check.due("the latest that was not NONE", x.servedAt(1), 8);
        Check.kitchen(x, "");
        Check.due("it stays in a new kitchen", x.servedAt(0), 4);
        x.served(1);
        Check.due("no guests now", x.servedAt(0), -1);
    }

    /** Many GUESTS near one another on few PLACES, so that they stand in each other's way. */
    private static void servedByTheModel() {
        Random random = new Random(17);
        for (int i = 0; i < 60; i++) {
            StringBuilder t = new StringBuilder("pan " + (i % 2 == 0 ? 1 : 1 + random.nextInt(4)));
            t.append(";cold ").append(random.nextInt(12)).append(";");
            int guests = 2 + random.nextInt(i % 10 == 0 ? 7 : 4);
            int base = random.nextInt(60);
            int most = 1 + random.nextInt(i % 3 == 0 ? 99 : 9);
            for (int g = 0; g < guests; g++) {
                t.append("guest g").append((char) ('a' + g)).append(" ").append(base + random.nextInt(6)).append(" ");
                t.append(random.nextInt(most + 1)).append(";");
            }
            int minutes = 1 + random.nextInt(5);
            PanSlices x = Check.with(t.toString());
            Model model = new Model();
            byte[] bytes = Check.bytes(t.toString());
            for (int k = 0; k < bytes.length; k += 20) {
                model.feed(Check.numbers(bytes, k));
            }
            model.end(bytes.length);
            model.kitchen();
            Check.due("served " + minutes + " of " + t, x.served(minutes), model.served(minutes));
            for (int g = 0; g < guests; g++) {
                Check.due("servedAt " + g + " by " + minutes + " of " + t, x.servedAt(g), model.servedAt(g));
            }
        }
    }

    private static void mean(String burn, long above, long below) {
        PanSlices x = Check.with(burn + "slice a 1 1;slice b 3 2 once;");
        Check.due("mean above of " + burn, x.mean(1, 0), above);
        Check.due("mean below of " + burn, x.mean(1, 1), below);
        int[][] none = {{-1, 0}, {2, 0}, {0, -1}, {0, 2}};
        for (int[] at : none) {
            Check.throwsNoSuch("mean", () -> x.mean(at[0], at[1]));
        }
    }

    private static void means() {
        mean("", 5, 1);
        mean("burn 0 20;", 5, 1);
        // By 1 of 2: 3 * 4 + 2 * 2.
        mean("burn 1 2;", 16, 1);
        // By 1 of 4: 3 * 16/9 + 2 * 4/3 is 8.
        mean("burn 1 4;", 8, 1);
        // By 1 of 3: 3 * 9/4 + 2 * 3/2 is 39/4.
        mean("burn 1 3;", 39, 4);
        mean("burn 19 20;", 1240, 1);
        PanSlices x = Check.with("burn 1 4;slice a 1 1;");
        Check.due("28/9", x.mean(0, 0), 28);
        Check.due("28/9", x.mean(0, 1), 9);
    }

    private static void hotels() {
        PanSlices x = Check.with("sort 2 5;sort 3 6;");
        Check.due("two places", x.hotel(3, 1, 3), 5);
        Check.due("pans", x.pans(0), 1);
        Check.due("pans", x.pans(1), 0);
        Check.due("six places", x.hotel(6, 1, 2), 12);
        Check.due("pans", x.pans(0), 0);
        Check.due("pans", x.pans(1), 2);
        Check.due("five places", x.hotel(5, 1, 2), 11);
        Check.due("pans", x.pans(0), 1);
        Check.due("pans", x.pans(1), 1);
        Check.due("the most", x.hotel(200, 20, 40), 401);
        Check.due("pans", x.pans(0), 1);
        Check.due("pans", x.pans(1), 66);
        int[][] none = {{0, 1, 2}, {201, 1, 2}, {1, 0, 2}, {1, 21, 400}, {1, 1, 0}, {1, 1, 401}, {1, 1, 1}, {9, 20, 39}};
        for (int[] a : none) {
            Check.due("hotel not as told", x.hotel(a[0], a[1], a[2]), -1);
        }
        Check.due("400 minutes", x.hotel(200, 1, 400), 5);
        Check.due("no sorts", new PanSlices().hotel(1, 1, 2), -1);
    }

    private static void hotelTies() {
        // 4 PLACES: 4 of the first, 2 and 1 .., or 1 of the last: alike in COST, the least row has none of the first.
        PanSlices x = Check.with("sort 1 2;sort 2 4;sort 4 8;");
        Check.due("cost", x.hotel(4, 1, 2), 8);
        Check.due("pans 0", x.pans(0), 0);
        Check.due("pans 1", x.pans(1), 0);
        Check.due("pans 2", x.pans(2), 1);
        // 5 PLACES for 10: one of each, or 1 and 2 and 2 ..: still the fewest of the first, then of the next.
        Check.due("cost", x.hotel(5, 1, 2), 10);
        Check.due("pans 0", x.pans(0), 1);
        Check.due("pans 1", x.pans(1), 0);
        Check.due("pans 2", x.pans(2), 1);
        // More PLACES than wanted may be the cheapest.
        x = Check.with("sort 1 9;sort 9 8;");
        Check.due("cost", x.hotel(1, 1, 2), 8);
        Check.due("pans 0", x.pans(0), 0);
        Check.due("pans 1", x.pans(1), 1);
    }

    private static void hotelStays() {
        PanSlices x = new PanSlices();
        Check.due("ahead of any", x.pans(0), -1);
        Check.kitchen(x, "sort 1 1;sort 1 1;");
        Check.due("still ahead", x.pans(0), -1);
        Check.due("hotel", x.hotel(3, 1, 2), 3);
        Check.due("hotel that is none", x.hotel(3, 1, 1), -1);
        Check.due("pans", x.pans(0), 0);
        Check.due("pans", x.pans(1), 3);
        Check.due("no such sort", x.pans(2), -1);
        Check.due("no such sort", x.pans(-1), -1);
        Check.kitchen(x, "");
        Check.due("they stay in a new kitchen", x.pans(1), 3);
        Check.due("and by a hotel that is none", x.hotel(3, 1, 2), -1);
        Check.due("they stay", x.pans(1), 3);
    }

    private static void brown(String told, int m, int p, long due) {
        PanSlices x = new PanSlices();
        Check.feed(x, told);
        Check.due("brown " + m + " " + p, x.brown(m, p), due);
        Check.due("the tape is empty then", x.count(7), 0);
    }

    private static void browns() {
        brown("\3", 2, 1, 2);
        brown("\3", 1, 2, 0);
        brown("\3\3\3", 3, 2, 48);
        brown("\0", 0, 1, 1);
        brown("\0\0\0\0\0", 10, 4, 1);
        brown("\1", 0, 4, 0);
        // None twice: the side is on in one of the minutes, in the others nothing is.
        brown("\1", 2, 1, 2);
        brown("\2", 10, 1, 10);
        brown("\1\2", 1, 2, 1);
        brown("\1\2", 1, 1, 0);
        brown("\1\2", 2, 2, 4);
        brown("\3", 3, 4, 6);
        brown("\1\1\1\1\1", 1, 4, 0);
        brown("\1\1\1\1\1", 2, 4, 30);
        brown("\3\3\3\3\3", 10, 1, 3628800);
        brown("\3\3\3\3\3", 2, 4, 0);
        // With a PLACE for each SLICE any two minutes will do for its sides: 90 ways each.
        brown("\3\3", 10, 4, 8100);
        brown("\3\3\3\3", 10, 4, 65610000);
    }

    private static void brownsNotAsTold() {
        brown("", 1, 1, -1);
        brown("\1\1\1\1\1\1", 1, 1, -1);
        brown("\4", 1, 1, -1);
        brown("\1\u00ff", 1, 1, -1);
        brown("\1", -1, 1, -1);
        brown("\1", 11, 1, -1);
        brown("\1", 1, 0, -1);
        brown("\1", 1, 5, -1);
    }

    private static void mornings() {
        PanSlices x = Check.with("pan 1;slice a 3 4;slice b 5 6;");
        Check.plan(x, "a top 0 0 1;");
        Check.due("one place: all minutes", x.morning(5), 18);
        Check.due("the plan stays", x.count(6), 1);
        Check.due("mornings", x.mornings(100, -50), 18);
        x = Check.with("pan 4;slice a 3 4;slice b 5 6;");
        Check.due("a place for each: the longest", x.morning(5), 11);
        Check.due("no slices", new PanSlices().morning(1), -1);
        Check.due("no slices", new PanSlices().mornings(1, 1), -1);
        Check.due("no seeds", x.mornings(0, 1), -1);
        Check.due("too many seeds", x.mornings(101, 1), -1);
        drawnByHand();
        x = Check.with("slice a 1 1;slice b 1 1;slice c 1 1;slice d 2 1;");
        int least = Integer.MAX_VALUE;
        int most = 0;
        for (int i = 0; i < 100; i++) {
            int minutes = x.morning(Integer.MAX_VALUE - 50 + i);
            least = Math.min(least, minutes);
            most = Math.max(most, minutes);
            Check.due("mornings " + i, x.mornings(i + 1, Integer.MAX_VALUE - 50), least);
        }
        Check.due("they are not all alike", most > least, true);
    }

    /** Three SLICES of a minute a side, two PLACES: 3 minutes, or 4 if one of them is left alone at the end. */
    private static void drawnByHand() {
        PanSlices x = Check.with("slice a 1 1;slice b 1 1;slice c 1 1;");
        for (int seed = -20; seed < 20; seed++) {
            int drawn = seed;
            int[] left = {2, 2, 2};
            int minutes = 0;
            while (left[0] + left[1] + left[2] > 0) {
                int on = -1;
                for (int place = 0; place < 2; place++) {
                    int open = 0;
                    for (int s = 0; s < 3; s++) {
                        open += left[s] > 0 && s != on ? 1 : 0;
                    }
                    if (open == 0) {
                        continue;
                    }
                    drawn = drawn * 1103515245 + 12345;
                    int k = (drawn >>> 8) % open;
                    int s = -1;
                    while (k >= 0) {
                        s++;
                        k -= left[s] > 0 && s != on ? 1 : 0;
                    }
                    if (left[s] == 2) {
                        drawn = drawn * 1103515245 + 12345;
                    }
                    left[s]--;
                    on = s;
                }
                minutes++;
            }
            Check.due("morning " + seed, x.morning(seed), minutes);
        }
    }
}
