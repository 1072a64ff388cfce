/** The edges of promises 32 to 42: SLICES alike, SERVED, MEAN, HOTEL, BROWN and MORNINGS. One test a sentence. */
public final class EdgeSumTest {
    /** Numbers far outside of every range. */
    private static final int[] FAR = {Integer.MIN_VALUE, Integer.MIN_VALUE + 1, -1000, -2, -1, 100000, 1 << 30,
        Integer.MAX_VALUE - 1, Integer.MAX_VALUE};

    private EdgeSumTest() { }

    public static void main(String[] args) {
        rangesOfFewest();
        fewestByRounds();
        rangesOfAlike();
        rangesOfAlikeAt();
        alikeAsSeveral();
        rangesOfServed();
        servedTooCold();
        servedTooLate();
        servedByPlaces();
        servedFarAway();
        servedTies();
        servedIsKept();
        rangesOfMean();
        meansInLeastNumbers();
        rangesOfHotel();
        hotelThatCannotBe();
        hotelTies();
        hotelIsKept();
        rangesOfBrown();
        bytesOfBrown();
        brownOfAllSides();
        rangesOfMornings();
        morningsWrap();
        settingsNotNamed();
        Check.close("EdgeSumTest");
    }

    // ---- SLICES alike ----

    /** "n SLICES alike (1 to 4000), so many minutes a side (1 to 20) .. in so many minutes (1 to 999)". */
    private static void rangesOfFewest() {
        PanSlices x = new PanSlices();
        for (int n : new int[] {0, 1, 2, 3999, 4000, 4001}) {
            boolean told = n >= 1 && n <= 4000;
            Check.due("fewest of " + n, x.fewest(n, 1, 2), told ? n : -1);
            Check.due("fewest of " + n + " in 999", x.fewest(n, 1, 999), told ? (2 * n + 998) / 999 : -1);
        }
        for (int minutes : new int[] {0, 1, 2, 19, 20, 21}) {
            boolean told = minutes >= 1 && minutes <= 20;
            Check.due("fewest of " + minutes + " a side", x.fewest(10, minutes, 4 * minutes), told ? 5 : -1);
            Check.due("fewest of " + minutes + " a side in 999", x.fewest(1, minutes, 999), told ? 1 : -1);
        }
        for (int all : new int[] {0, 1, 2, 3, 998, 999, 1000}) {
            boolean told = all >= 2 && all <= 999;
            Check.due("fewest in " + all, x.fewest(1, 1, all), told ? 1 : -1);
        }
        for (int far : FAR) {
            Check.due("fewest of " + far, x.fewest(far, 1, 9), -1);
            Check.due("fewest of " + far + " a side", x.fewest(1, far, 9), -1);
            Check.due("fewest in " + far, x.fewest(1, 1, far), -1);
        }
    }

    /** "NONE: they can't be": less than two sides one behind the other. */
    private static void fewestByRounds() {
        PanSlices x = new PanSlices();
        for (int minutes = 1; minutes <= 20; minutes++) {
            Check.due("a minute less than two sides", x.fewest(7, minutes, 2 * minutes - 1), -1);
            Check.due("just two sides", x.fewest(7, minutes, 2 * minutes), 7);
            Check.due("a minute less than three sides", x.fewest(7, minutes, 3 * minutes - 1), 7);
            Check.due("just three sides", x.fewest(7, minutes, 3 * minutes), 5);
            Check.due("a minute less than seven sides", x.fewest(7, minutes, 7 * minutes - 1), 3);
            Check.due("just seven sides", x.fewest(7, minutes, 7 * minutes), 2);
            Check.due("a minute less than 14 sides", x.fewest(7, minutes, 14 * minutes - 1), 2);
            Check.due("just 14 sides", x.fewest(7, minutes, 14 * minutes), 1);
        }
        for (int n = 1; n <= 12; n++) {
            for (int rounds = 2; rounds <= 26; rounds++) {
                Check.due(n + " in " + rounds, x.fewest(n, 1, rounds), fewestByTrying(n, rounds));
            }
        }
    }

    /** From one PLACE on: in each round those with the most sides left. */
    private static int fewestByTrying(int n, int rounds) {
        for (int places = 1; places <= 2 * n; places++) {
            int both = n;
            int single = 0;
            for (int i = 0; i < rounds; i++) {
                int ofBoth = Math.min(both, places);
                int ofSingle = Math.min(single, places - ofBoth);
                both -= ofBoth;
                single += ofBoth - ofSingle;
            }
            if (both + single == 0) {
                return places;
            }
        }
        return -1;
    }

    /** "n SLICES alike (1 to 4000), a minute a side, on k PLACES (1 to 60)". */
    private static void rangesOfAlike() {
        PanSlices x = new PanSlices();
        for (int n : new int[] {0, 1, 2, 3999, 4000, 4001}) {
            for (int k : new int[] {0, 1, 2, 59, 60, 61}) {
                boolean told = n >= 1 && n <= 4000 && k >= 1 && k <= 60;
                int minutes = told ? 2 * n / k + (2 * n % k > 0 ? 1 : 0) : -1;
                Check.due("alike " + n + " " + k, x.alike(n, k), told ? minutes < 2 ? 2 : minutes : -1);
            }
        }
        for (int far : FAR) {
            Check.due("alike " + far, x.alike(far, 1), -1);
            Check.due("alike on " + far, x.alike(1, far), -1);
        }
        // A SLICE takes two minutes on however many PLACES; then as they are cut up.
        for (int k = 1; k <= 60; k++) {
            Check.due("one slice on " + k, x.alike(1, k), 2);
            Check.due("as many as places", x.alike(k, k), 2);
            Check.due("one more than places", x.alike(k + 1, k), k == 1 ? 4 : 3);
        }
    }

    /** "NONE: nothing, not as told". */
    private static void rangesOfAlikeAt() {
        PanSlices x = new PanSlices();
        int[][] asked = {{1, 1}, {1, 60}, {3, 2}, {5, 3}, {7, 4}, {30, 60}, {31, 60}, {4000, 1}, {4000, 60}, {3999, 60}};
        for (int[] a : asked) {
            int minutes = x.alike(a[0], a[1]);
            for (int minute : new int[] {-1, 0, 1, minutes - 1, minutes, minutes + 1}) {
                for (int place : new int[] {-1, 0, 1, a[1] - 1, a[1], a[1] + 1}) {
                    boolean told = minute >= 0 && minute < minutes && place >= 0 && place < a[1];
                    int side = place * minutes + minute;
                    Check.due("alikeAt " + a[0] + " " + a[1] + " " + minute + " " + place,
                        x.alikeAt(a[0], a[1], minute, place), told && side < 2 * a[0] ? side : -1);
                }
            }
            int last = 2 * a[0] - 1;
            Check.due("the last side", x.alikeAt(a[0], a[1], last % minutes, last / minutes), last);
            Check.due("behind the last side", x.alikeAt(a[0], a[1], (last + 1) % minutes, (last + 1) / minutes), -1);
        }
        for (int far : FAR) {
            Check.due("alikeAt n " + far, x.alikeAt(far, 1, 0, 0), -1);
            Check.due("alikeAt k " + far, x.alikeAt(1, far, 0, 0), -1);
            Check.due("alikeAt minute " + far, x.alikeAt(4000, 60, far, 0), -1);
            Check.due("alikeAt place " + far, x.alikeAt(4000, 60, 0, far), -1);
        }
        for (int[] a : new int[][] {{0, 1}, {4001, 1}, {1, 0}, {1, 61}}) {
            Check.due("alikeAt " + a[0] + " " + a[1], x.alikeAt(a[0], a[1], 0, 0), -1);
        }
    }

    /** "(as SEVERAL makes it)". */
    private static void alikeAsSeveral() {
        StringBuilder text = new StringBuilder();
        for (int n = 1; n <= 8; n++) {
            text.append("slice ").append((char) ('a' + n)).append(" 1 1;");
            for (int k = 1; k <= 4; k++) {
                PanSlices x = Check.with(text + "pan " + k + ";");
                Check.due("alike " + n + " " + k, x.alike(n, k), x.several());
                for (int minute = -1; minute <= x.ends(); minute++) {
                    for (int place = -1; place <= k; place++) {
                        int due = -1;
                        for (int i = 0; i < x.count(6); i++) {
                            due = x.go(i, 2) == minute && x.go(i, 3) == place ? 2 * x.go(i, 0) + x.go(i, 1) : due;
                        }
                        Check.due("alikeAt " + n + " " + k + " " + minute + " " + place, x.alikeAt(n, k, minute, place), due);
                    }
                }
            }
        }
    }

    // ---- SERVED ----

    /** "SERVED with SLICES of so many minutes (1 to 40) .. NONE: not as told". */
    private static void rangesOfServed() {
        PanSlices x = Check.with("guest g 0 99;");
        for (int minutes = -1; minutes <= 42; minutes++) {
            boolean told = minutes >= 1 && minutes <= 40;
            Check.due("served " + minutes, x.served(minutes), told ? 99 - minutes : -1);
            Check.due("servedAt", x.servedAt(0), minutes < 1 ? -1 : told ? minutes : 40);
        }
        for (int far : FAR) {
            Check.due("served " + far, x.served(far), -1);
            Check.due("it stays", x.servedAt(0), 40);
        }
        Check.due("no guests", new PanSlices().served(1), 0);
        Check.due("no guests", new PanSlices().served(40), 0);
        Check.due("no guests", new PanSlices().served(41), -1);
    }

    private static void served(String kitchen, int minutes, int worth, int... at) {
        PanSlices x = Check.with(kitchen);
        Check.due("served " + minutes + " of " + kitchen, x.served(minutes), worth);
        for (int g = 0; g < at.length; g++) {
            Check.due("guest " + g + " of " + kitchen, x.servedAt(g), at[g]);
        }
        Check.due("no such guest", x.servedAt(at.length), -1);
        Check.due("no such guest", x.servedAt(-1), -1);
    }

    /** "of one that is done more than 'cold' minutes ahead of COMES: 0". */
    private static void servedTooCold() {
        // An end at 40 alone is ahead of COMES; that at 80 is too late to be worth anything.
        for (int cold = 0; cold <= 30; cold++) {
            int comes = 40 + cold;
            served("cold " + cold + ";guest g " + (comes - 1) + " 5;", 40, cold == 0 ? 4 : 5, 40);
            served("cold " + cold + ";guest g " + comes + " 5;", 40, 5, 40);
            served("cold " + cold + ";guest g " + (comes + 1) + " 5;", 40, 0, -1);
        }
        served("guest g 50 5;", 40, 5, 40);
        served("guest g 51 5;", 40, 0, -1);
        served("cold 99;guest g 139 5;", 40, 5, 120);
        served("cold 99;guest g 240 99;", 40, 99, 240);
        // With 'cold' 0 only the minute itself, or a later one.
        served("cold 0;guest g 12 9;", 4, 9, 12);
        served("cold 0;guest g 13 9;", 4, 6, 16);
        served("cold 0;guest g 11 9;", 4, 8, 12);
    }

    /** "what is told, less the minutes behind COMES .. not below 0". */
    private static void servedTooLate() {
        for (int comes = 0; comes <= 40; comes++) {
            int late = 40 - comes;
            for (int worth : new int[] {0, late - 1, late, late + 1, 99}) {
                if (worth >= 0 && worth <= 99) {
                    int due = Math.max(0, worth - late);
                    served("cold 0;guest g " + comes + " " + worth + ";", 40, due, due > 0 ? 40 : -1);
                }
            }
        }
        // A GUEST who is worth nothing is not served.
        served("guest g 5 0;", 5, 0, -1);
        served("guest g 5 1;", 5, 1, 5);
    }

    /** "PLACES of them can be done at the end of each so many minutes". */
    private static void servedByPlaces() {
        StringBuilder text = new StringBuilder();
        for (int n = 1; n <= 8; n++) {
            text.append("guest ").append((char) ('a' + n)).append(" 5 99;");
            for (int places = 1; places <= 4; places++) {
                PanSlices x = Check.with("cold 0;pan " + places + ";" + text);
                int worth = 0;
                for (int g = 0; g < n; g++) {
                    worth += 99 - 5 * (g / places);
                }
                Check.due(n + " guests on " + places, x.served(5), worth);
                for (int g = 0; g < n; g++) {
                    // Of like ones the set at the first end is the least: the first GUESTS.
                    Check.due("guest " + g + " of " + n + " on " + places, x.servedAt(g), 5 + 5 * (g / places));
                }
            }
        }
    }

    /** "(behind so many, twice so many, ..)": as far as COMES and WORTH go. */
    private static void servedFarAway() {
        StringBuilder text = new StringBuilder("pan 1;cold 0;");
        for (int g = 0; g < 8; g++) {
            text.append("guest ").append((char) ('a' + g)).append(" 240 99;");
        }
        for (int minutes = 1; minutes <= 40; minutes++) {
            PanSlices x = Check.with(text.toString());
            int first = (240 + minutes - 1) / minutes * minutes;
            int worth = 0;
            int last = 0;
            for (int i = 0; i < 8; i++) {
                int at = first + i * minutes;
                worth += Math.max(0, 339 - at);
                last = at < 339 ? i : last;
            }
            Check.due("eight at 240 by " + minutes, x.served(minutes), worth);
            Check.due("the first", x.servedAt(0) >= first, true);
            int found = 0;
            for (int g = 0; g < 8; g++) {
                found = Math.max(found, x.servedAt(g));
            }
            Check.due("the last end by " + minutes, found, first + last * minutes);
        }
        // Eight who never meet: each is served when he comes, be it early or late in the day.
        text = new StringBuilder("pan 1;cold 99;");
        for (int g = 0; g < 8; g++) {
            text.append("guest ").append((char) ('a' + g)).append(' ').append(16 + 32 * (g * 3 % 8)).append(' ').append(90 + g).append(';');
        }
        served(text.toString(), 1, 748, 16, 112, 208, 48, 144, 240, 80, 176);
        // And by pairs, on one PLACE: the first of a pair when they come, so that the set of that end is the lesser.
        text = new StringBuilder("pan 1;cold 0;");
        for (int g = 0; g < 8; g++) {
            text.append("guest ").append((char) ('a' + g)).append(' ').append(24 + 72 * (g / 2)).append(" 99;");
        }
        served(text.toString(), 1, 788, 24, 25, 96, 97, 168, 169, 240, 241);
        // A minute later costs both alike, as long as it is worth something: the first GUEST first.
        served("guest a 0 1;guest b 0 4;pan 1;", 1, 3, -1, 1);
        served("guest a 0 2;guest b 0 4;pan 1;", 1, 3, 1, 2);
        served("guest a 0 3;guest b 0 4;pan 1;", 1, 4, 1, 2);
    }

    /** "of like ones that by which, end by end, the set of GUESTS served then is the least as bits". */
    private static void servedTies() {
        // Ahead of COMES all ends within 'cold' are worth as much: the last one.
        served("cold 10;guest g 20 5;", 5, 5, 20);
        served("cold 10;guest g 24 5;", 5, 5, 20);
        // Two GUESTS, one PLACE, ends at 5 and 10 alike for both: {0} then {1}, as 1 is less than 2.
        served("pan 1;cold 10;guest a 10 5;guest b 10 5;", 5, 10, 5, 10);
        served("pan 1;cold 10;guest a 10 5;guest b 11 5;guest c 11 5;", 5, 11, 5, 10, 15);
    }

    /** servedAt(): "by the latest served() that was not NONE; NONE: he is not, no such one then, or ahead of any". */
    private static void servedIsKept() {
        PanSlices x = Check.with("guest a 5 9;guest b 5 0;");
        Check.due("ahead of any", x.servedAt(0), -1);
        Check.due("served", x.served(5), 9);
        Check.due("a", x.servedAt(0), 5);
        Check.due("b is not", x.servedAt(1), -1);
        for (int g : new int[] {-1, 2, 7, 8, 9, Integer.MIN_VALUE, Integer.MAX_VALUE}) {
            Check.due("no such one " + g, x.servedAt(g), -1);
        }
        Check.due("served that is none", x.served(41), -1);
        Check.due("a stays", x.servedAt(0), 5);
        Check.kitchen(x, "guest a 5 9;guest b 5 9;guest c 5 9;");
        Check.due("a stays in a new kitchen", x.servedAt(0), 5);
        Check.due("no such one then", x.servedAt(2), -1);
        Check.due("two at 4, one at 8", x.served(4), 9 + 9 + 6);
        Check.kitchen(x, "");
        Check.due("it was then", x.servedAt(0) > 0, true);
        Check.due("served of none", x.served(1), 0);
        Check.due("he is not now", x.servedAt(0), -1);
    }

    // ---- MEAN ----

    /** "NoSuchElementException: no such ones". */
    private static void rangesOfMean() {
        PanSlices x = Check.with("slice a 3 4;slice b 5 6;");
        Check.due("above", x.mean(0, 0), 7);
        Check.due("below", x.mean(1, 1), 1);
        int[][] none = {{-1, 0}, {2, 0}, {0, -1}, {0, 2}, {1, 2}, {8, 0}, {Integer.MIN_VALUE, 0}, {Integer.MAX_VALUE, 0},
            {0, Integer.MIN_VALUE}, {0, Integer.MAX_VALUE}};
        for (int[] a : none) {
            Check.throwsNoSuch("mean " + a[0] + " " + a[1], () -> x.mean(a[0], a[1]));
        }
        Check.throwsNoSuch("mean without slices", () -> new PanSlices().mean(0, 0));
    }

    /** "0 above, 1 below, in least numbers": all K and M. */
    private static void meansInLeastNumbers() {
        int[][] sides = {{1, 1}, {1, 20}, {20, 1}, {20, 20}, {7, 13}};
        for (int m = 1; m <= 20; m++) {
            for (int k = 0; k < m; k++) {
                for (int[] s : sides) {
                    PanSlices x = Check.with("burn " + k + " " + m + ";slice a " + s[0] + " " + s[1] + ";");
                    long above = x.mean(0, 0);
                    long below = x.mean(0, 1);
                    // E = TOP + K/M E + (1 - K/M) (UNDER + K/M E), by M M below.
                    long good = m - k;
                    long left = above * m * m;
                    long right = below * m * (s[0] * m + s[1] * good) + above * ((long) k * m + good * k);
                    Check.due("mean of burn " + k + " " + m, left, right);
                    Check.due("in least numbers", leastNumbers(above, below), true);
                    Check.due("below is above 0", below > 0, true);
                }
            }
        }
    }

    private static boolean leastNumbers(long above, long below) {
        for (long d = 2; d <= below; d++) {
            if (above % d == 0 && below % d == 0) {
                return false;
            }
        }
        return true;
    }

    // ---- HOTEL ----

    /** "HOTEL of n SLICES (1 to 200), so many minutes a side (1 to 20), in so many minutes (1 to 400)". */
    private static void rangesOfHotel() {
        PanSlices x = Check.with("sort 1 1;");
        for (int n : new int[] {0, 1, 2, 199, 200, 201}) {
            Check.due("hotel of " + n, x.hotel(n, 1, 2), n >= 1 && n <= 200 ? n : -1);
            // So few PLACES would do for 201, too: it is the number that is refused.
            Check.due("hotel of " + n + " in 400", x.hotel(n, 1, 400), n >= 1 && n <= 200 ? 1 : -1);
        }
        for (int minutes : new int[] {0, 1, 2, 19, 20, 21}) {
            Check.due("hotel of " + minutes + " a side", x.hotel(6, minutes, 4 * minutes), minutes >= 1 && minutes <= 20 ? 3 : -1);
        }
        for (int all : new int[] {-1, 0, 1, 2, 399, 400, 401}) {
            Check.due("hotel in " + all, x.hotel(200, 1, all), all < 2 || all > 400 ? -1 : all == 2 ? 200 : all == 399 ? 2 : 1);
        }
        for (int far : FAR) {
            Check.due("hotel of " + far, x.hotel(far, 1, 2), -1);
            Check.due("hotel of " + far + " in 400", x.hotel(far, 1, 400), -1);
            Check.due("hotel of " + far + " a side", x.hotel(1, far, 2), -1);
            Check.due("hotel in " + far, x.hotel(1, 1, far), -1);
        }
        Check.due("the dearest", Check.with("sort 1 99;").hotel(200, 20, 40), 19800);
    }

    /** "NONE: it can't be". */
    private static void hotelThatCannotBe() {
        Check.due("no sorts", new PanSlices().hotel(1, 1, 400), -1);
        PanSlices x = Check.with("sort 3 7;");
        for (int minutes = 1; minutes <= 20; minutes++) {
            Check.due("a minute less than two sides", x.hotel(4, minutes, 2 * minutes - 1), -1);
            Check.due("just two sides", x.hotel(4, minutes, 2 * minutes), 14);
            Check.due("a minute less than three sides", x.hotel(4, minutes, 3 * minutes - 1), 14);
            Check.due("just three sides", x.hotel(4, minutes, 3 * minutes), 7);
        }
        // 3 SLICES on 3 PLACES, 4 on 4: a pan of 3 is just enough, or one PLACE short.
        Check.due("just full", x.hotel(3, 1, 2), 7);
        Check.due("pans", x.pans(0), 1);
        Check.due("one more", x.hotel(4, 1, 2), 14);
        Check.due("pans", x.pans(0), 2);
        Check.due("full again", x.hotel(6, 1, 2), 14);
        Check.due("and one more", x.hotel(7, 1, 2), 21);
    }

    private static void hotel(String kitchen, int n, int cost, int... pans) {
        PanSlices x = Check.with(kitchen);
        Check.due("hotel " + n + " of " + kitchen, x.hotel(n, 1, 2), cost);
        for (int k = 0; k < pans.length; k++) {
            Check.due("pans " + k + " of " + kitchen, x.pans(k), pans[k]);
        }
        Check.due("no such sort", x.pans(pans.length), -1);
        Check.due("no such sort", x.pans(-1), -1);
    }

    /** "the least COST; of like ones the row (SORT by SORT) that is the least". */
    private static void hotelTies() {
        hotel("sort 1 1;sort 1 1;", 3, 3, 0, 3);
        hotel("sort 1 1;sort 2 2;sort 4 4;", 4, 4, 0, 0, 1);
        hotel("sort 4 4;sort 2 2;sort 1 1;", 4, 4, 0, 0, 4);
        hotel("sort 4 4;sort 2 2;sort 1 2;", 4, 4, 0, 2, 0);
        hotel("sort 9 1;sort 1 1;", 1, 1, 0, 1);
        hotel("sort 9 1;sort 1 1;", 2, 1, 1, 0);
        hotel("sort 9 99;sort 1 11;", 9, 99, 0, 9);
        hotel("sort 9 99;sort 1 12;", 9, 99, 1, 0);
        hotel("sort 9 99;sort 1 11;", 10, 110, 0, 10);
        hotel("sort 5 9;sort 3 5;sort 2 4;sort 1 3;sort 4 8;", 8, 14, 0, 2, 1, 0, 0);
        hotel("sort 1 99;sort 1 99;sort 1 99;sort 1 99;sort 1 99;", 200, 19800, 0, 0, 0, 0, 200);
    }

    /** pans(): "by the latest hotel() that was not NONE; NONE: there is none such, or ahead of any". */
    private static void hotelIsKept() {
        PanSlices x = Check.with("sort 1 1;sort 2 3;");
        Check.due("ahead of any", x.pans(0), -1);
        Check.due("hotel that can't be", x.hotel(1, 1, 1), -1);
        Check.due("still ahead of any", x.pans(0), -1);
        Check.due("hotel", x.hotel(5, 1, 2), 5);
        for (int i = 0; i < 2; i++) {
            Check.due("pans 0", x.pans(0), 5);
            Check.due("pans 1", x.pans(1), 0);
            for (int k : new int[] {-1, 2, 4, 5, Integer.MIN_VALUE, Integer.MAX_VALUE}) {
                Check.due("no such sort " + k, x.pans(k), -1);
            }
            Check.due("not as told", x.hotel(201, 1, 2), -1);
            Check.due("can't be", x.hotel(1, 2, 3), -1);
        }
        Check.kitchen(x, "");
        Check.due("no sorts", x.hotel(1, 1, 2), -1);
        Check.due("it stays", x.pans(0), 5);
    }

    // ---- BROWN ----

    private static long brown(PanSlices x, int m, int p, int... sides) {
        byte[] tape = new byte[sides.length];
        for (int i = 0; i < sides.length; i++) {
            tape[i] = (byte) sides[i];
        }
        Check.feed(x, tape);
        Check.due("bytes of the tape", x.count(7), sides.length);
        long ways = x.brown(m, p);
        Check.due("the tape is empty then", x.count(7), 0);
        return ways;
    }

    /** "after m (0 to 10) minutes on p PLACES (1 to 4)". */
    private static void rangesOfBrown() {
        PanSlices x = new PanSlices();
        for (int m = -1; m <= 12; m++) {
            for (int p = -1; p <= 6; p++) {
                boolean told = m >= 0 && m <= 10 && p >= 1 && p <= 4;
                Check.due("nothing brown " + m + " " + p, brown(x, m, p, 0), told ? 1 : -1);
                Check.due("one side " + m + " " + p, brown(x, m, p, 1), told ? m : -1);
                Check.due("both sides " + m + " " + p, brown(x, m, p, 3), told ? m * (m - 1) : -1);
            }
        }
        for (int far : FAR) {
            Check.due("brown after " + far, brown(x, far, 1, 0), -1);
            Check.due("brown on " + far, brown(x, 1, far, 0), -1);
        }
    }

    /** "the tape telling of each of 1 to 5 SLICES (a byte 0 to 3) which sides". */
    private static void bytesOfBrown() {
        PanSlices x = new PanSlices();
        for (int slices = 0; slices <= 21; slices++) {
            Check.due(slices + " slices", brown(x, 10, 4, new int[slices]), slices >= 1 && slices <= 5 ? 1 : -1);
        }
        for (int sides = 0; sides < 256; sides++) {
            long due = sides == 0 ? 1 : sides == 3 ? 2 : sides < 3 ? 2 : -1;
            Check.due("a byte of " + sides, brown(x, 2, 1, sides), due);
            Check.due("the last byte " + sides, brown(x, 2, 1, 0, 0, 0, 0, sides), due);
        }
        Check.due("the fifth is wrong", brown(x, 1, 1, 0, 0, 0, 0, 4), -1);
        Check.due("640 bytes", brown(x, 1, 1, new int[640]), -1);
    }

    /** "(PLACES at most, none twice, no two of one SLICE; or none)": all that can be told, by another way. */
    private static void brownOfAllSides() {
        PanSlices x = new PanSlices();
        int[][] told = {{3, 3, 3, 3, 3}, {3, 3, 3, 3, 0}, {1, 2, 1, 2, 1}, {3, 1, 3, 2, 3}, {1, 1, 1, 1}, {3, 3, 3}, {2}, {3, 3}};
        for (int[] sides : told) {
            for (int m = 0; m <= 10; m++) {
                for (int p = 1; p <= 4; p++) {
                    Check.due("brown " + m + " " + p, brown(x, m, p, sides), brownByMinutes(m, p, sides));
                }
            }
        }
        // Just at the least minutes there must be, and one less.
        Check.due("ten sides on one in ten", brown(x, 10, 1, 3, 3, 3, 3, 3), 3628800);
        Check.due("ten sides on one in nine", brown(x, 9, 1, 3, 3, 3, 3, 3), 0);
        Check.due("four sides on four in one", brown(x, 1, 4, 1, 2, 1, 2, 0), 1);
        Check.due("five sides on four in one", brown(x, 1, 4, 1, 2, 1, 2, 1), 0);
        Check.due("both sides in one", brown(x, 1, 4, 3), 0);
    }

    /** Ways to come from nothing to each set of sides, minute by minute. */
    private static long brownByMinutes(int m, int p, int[] sides) {
        int target = 0;
        for (int i = 0; i < sides.length; i++) {
            target |= sides[i] << 2 * i;
        }
        long[] ways = new long[1024];
        ways[0] = 1;
        for (int minute = 0; minute < m; minute++) {
            long[] next = new long[1024];
            for (int had = 0; had < 1024; had++) {
                for (int on = 0; on < 1024 && ways[had] > 0; on++) {
                    boolean twoOfOne = (on & on >> 1 & 0x155) != 0;
                    if ((on & had) == 0 && (on & ~target) == 0 && !twoOfOne && Integer.bitCount(on) <= p) {
                        next[had | on] += ways[had];
                    }
                }
            }
            ways = next;
        }
        return ways[target];
    }

    // ---- what is not named counts nothing ----

    /** The sentences of SLICES alike, HOTEL, MEAN and MORNING name no 'rest' and no 'once'; those alike no 'pan' either. */
    private static void settingsNotNamed() {
        PanSlices plain = Check.with("burn 1 3;slice a 3 2;slice b 1 4;slice c 2 2;sort 3 5;sort 1 2;");
        PanSlices told = Check.with("burn 1 3;rest 9;slice a 3 2 once;slice b 1 4 once;slice c 2 2 once;sort 3 5;sort 1 2;");
        PanSlices wide = Check.with("burn 1 3;rest 9;pan 4;slice a 3 2 once;slice b 1 4;slice c 2 2;sort 3 5;sort 1 2;");
        for (int all = 1; all <= 30; all++) {
            for (int minutes = 1; minutes <= 5; minutes++) {
                int fewest = plain.fewest(4, minutes, all);
                int hotel = plain.hotel(4, minutes, all);
                Check.due("fewest with rest", told.fewest(4, minutes, all), fewest);
                Check.due("fewest with a wide pan", wide.fewest(4, minutes, all), fewest);
                Check.due("hotel with rest", told.hotel(4, minutes, all), hotel);
                Check.due("hotel with a wide pan", wide.hotel(4, minutes, all), hotel);
            }
            Check.due("alike with rest", told.alike(all, 3), plain.alike(all, 3));
            Check.due("alikeAt with rest", told.alikeAt(4, 3, all - 1, 1), plain.alikeAt(4, 3, all - 1, 1));
            Check.due("morning with rest", told.morning(all), plain.morning(all));
        }
        Check.due("one SLICE, a side right behind the other", told.fewest(1, 1, 2), 1);
        Check.due("its pan", told.hotel(1, 1, 2), 2);
        for (int s = 0; s < 3; s++) {
            Check.due("mean above with rest", told.mean(s, 0), plain.mean(s, 0));
            Check.due("mean below with rest", told.mean(s, 1), plain.mean(s, 1));
        }
    }

    // ---- MORNINGS ----

    /** "n seeds (1 to 100: x, x and 1, ..); NONE: no SLICES, not as told". */
    private static void rangesOfMornings() {
        PanSlices x = Check.with("slice a 3 4;slice b 5 2;slice c 1 1;");
        for (int n : new int[] {-1, 0, 101, 102}) {
            Check.due("mornings of " + n, x.mornings(n, 5), -1);
        }
        for (int far : FAR) {
            Check.due("mornings of " + far, x.mornings(far, 5), -1);
        }
        int least = Integer.MAX_VALUE;
        for (int n = 1; n <= 100; n++) {
            least = Math.min(least, x.morning(n - 8));
            Check.due("mornings of " + n, x.mornings(n, -7), least);
        }
        PanSlices none = Check.with("guest g 1 1;");
        Check.due("morning without slices", none.morning(1), -1);
        Check.due("mornings without slices", none.mornings(1, 1), -1);
    }

    /** "x becomes x * 1103515245 + 12345 (an int, wrapping), the draw is (x >>> 8) % n". */
    private static void morningsWrap() {
        String[] kitchens = {"slice a 1 1;", "pan 4;slice a 20 20;slice b 20 20;slice c 20 20;slice d 20 20;slice e 20 20;"
            + "slice f 20 20;slice g 20 20;slice h 20 20;", "pan 1;slice a 20 1;slice b 1 20;", "pan 3;slice a 9 4;slice b 2 2;",
            "slice a 1 1;slice b 9 9;slice c 2 3;", "slice a 9 9;slice b 1 1;slice c 2 3;slice d 7 1;",
            "pan 3;slice a 2 1;slice b 3 3;slice c 1 9;slice d 7 1;slice e 4 4;slice f 1 1;",
            "pan 4;slice a 1 20;slice b 20 1;slice c 12 1;slice d 3 4;slice e 9 9;slice f 1 1;slice g 2 2;slice h 10 20;"};
        int[] seeds = {0, 1, -1, 2, Integer.MAX_VALUE, Integer.MAX_VALUE - 1, Integer.MIN_VALUE, Integer.MIN_VALUE + 1, 1 << 30,
            255, 256, -12345, 1103515245};
        for (String kitchen : kitchens) {
            PanSlices x = Check.with(kitchen);
            for (int seed : seeds) {
                Check.due("morning " + seed, x.morning(seed), drawnMorning(x, seed));
                int least = Integer.MAX_VALUE;
                for (int i = 0; i < 3; i++) {
                    // The seed itself wraps behind the greatest int.
                    least = Math.min(least, drawnMorning(x, (long) seed + i));
                }
                Check.due("mornings from " + seed, x.mornings(3, seed), least);
            }
        }
    }

    /** With longs that are cut to 32 bits, and lists of the SLICES that can be drawn. */
    private static int drawnMorning(PanSlices x, long seed) {
        long state = seed & 0xffffffffL;
        int slices = x.count(3);
        int[][] left = new int[slices][2];
        int all = 0;
        for (int s = 0; s < slices; s++) {
            for (int side = 0; side < 2; side++) {
                left[s][side] = x.slice(s, side);
                all += left[s][side];
            }
        }
        int minutes = 0;
        while (all > 0) {
            java.util.List<Integer> open = new java.util.ArrayList<>();
            for (int s = 0; s < slices; s++) {
                if (left[s][0] + left[s][1] > 0) {
                    open.add(s);
                }
            }
            for (int place = 0; place < x.count(0) && !open.isEmpty(); place++) {
                state = state * 1103515245L + 12345 & 0xffffffffL;
                int s = open.remove((int) ((state >> 8) % open.size()));
                int side = left[s][0] > 0 ? 0 : 1;
                if (left[s][0] > 0 && left[s][1] > 0) {
                    state = state * 1103515245L + 12345 & 0xffffffffL;
                    side = (int) ((state >> 8) % 2);
                }
                left[s][side]--;
                all--;
            }
            minutes++;
        }
        return minutes;
    }
}
