/** Promises 10 to 12: days, those who know others. */
public final class DayTest {
    private static final Check check = new Check();
    private static final String FIVE = "w,5,2,0;p3400;c4401;g2202;p1015;c0924";
    private static final int[] ASKED = {0, 1, 2, 3, 4, 10, 11, 12, 13, 14, 15};

    public static void main(String[] args) {
        daysPlayed();
        dayChangesNothing();
        theLastComer();
        firstWrong();
        pairsOutside();
        dayRefusals();
        knowing();
        farOfTwo();
        check.end();
    }

    private static void day(LoafGates x, int[] pairs, int... due) {
        Check.write(x, 1, 1, pairs);
        for (int k = 0; k < ASKED.length; k++) {
            check.same("day of " + java.util.Arrays.toString(pairs) + " what " + ASKED[k],
                    x.day(1, 1, 0, pairs.length / 2, ASKED[k]), due[k]);
        }
    }

    private static void daysPlayed() {
        LoafGates x = Check.of(FIVE);
        int none = LoafGates.NONE;
        day(x, new int[] {}, 3, none, 1, 1, 24, 0, 4, 1, 1, 0, none);
        day(x, new int[] {9, 0}, 3, none, 4, 1, 29, 3, 2, 0, 1, 0, none);
        day(x, new int[] {1, 6}, 3, none, 4, 1, 24, 1, 4, 0, 1, 0, none);
        day(x, new int[] {0, 7, 9, 2}, 3, none, 2, 1, 4 + 4 + 18 + 0 + 9, 3, 0, 2, 1, 0, none);
        day(x, new int[] {9, 8, 0, 9}, 3, none, 8, 0, 24, 3, 4, 2, 0, 0, none);
        day(x, new int[] {3, 10, 2, 11}, 4, none, 0, 1, 24, 3, 4, 1, 1, 0, none);
        day(x, new int[] {2, 11, 0, 11, 1, 15, 1, 14}, 3, none, 1, 1, 24, 0, 4, 1, 1, 0, none);
    }

    private static void dayChangesNothing() {
        LoafGates x = Check.of(FIVE);
        day(x, new int[] {9, 0, 2, 6, 9, 7, 9, 10, 2, 11}, 4, LoafGates.NONE, 0, 7,
                9 + 13 + 13 + 0 + 18, 3, 4, 1, 1, 0, LoafGates.NONE);
        check.same("show is as it was", x.ofComer(0, 2), 4);
        check.same("manner is as it was", x.many(5), 0);
        check.same("chalk is as it was", x.many(6), 1);
        check.same("loaves are as they were", x.ofGate(2, 0), 0);
        check.same("the gate is as it was", x.ofComer(0, 3), 0);
    }

    private static void theLastComer() {
        LoafGates x = Check.of("w,1,1;p1100;p1100;p1100;p1100;p1100;p1100");
        Check.write(x, 1, 2, 1, 16, 9, 5);
        check.same("led", x.day(1, 2, 0, 1, 15), 1);
        check.same("who goes without", x.day(1, 2, 0, 1, 2), 30);
        check.same("its show", x.day(1, 2, 2, 1, 4), 14);
        Check.write(x, 1, 2, 5, 8, 3, 9);
        check.same("left at both", x.day(1, 2, 0, 2, 3), 3);
        Check.write(x, 1, 2, 8, 8, 3, 9);
        check.same("left at the first too", x.day(1, 2, 0, 2, 3), 5);
    }

    private static void wrongAt(LoafGates x, int place, int... pairs) {
        Check.write(x, 1, 0, pairs);
        for (int what : ASKED) {
            int due = what == 1 ? place : -100 - place;
            check.same("wrong day what " + what, x.day(1, 0, 0, pairs.length / 2, what), due);
        }
    }

    private static void firstWrong() {
        LoafGates x = Check.of("w,5,2;p3400;c4401");
        wrongAt(x, 0, 0, 2);
        wrongAt(x, 1, 0, 1, 0, 5);
        wrongAt(x, 0, 5, 10);
        wrongAt(x, 0, 2, 11);
        wrongAt(x, 0, 0, 13);
        wrongAt(x, 2, 1, 12, 9, 9, 2, 11, 0, 2);
        check.same("no fault by it", x.fault(), 0);
    }

    private static void pairsOutside() {
        LoafGates x = Check.of("w,5,2;p3400;c4401");
        int[][] outside = {{0, -1}, {0, 17}, {10, 0}, {-1, 5}, {3, 6}, {-1, 6}, {10, 7}, {10, 8}, {-1, 10},
            {3, 11}, {-1, 16}, {Integer.MIN_VALUE, Integer.MAX_VALUE}};
        for (int[] pair : outside) {
            Check.write(x, 1, 2, pair);
            check.same("pair " + pair[0] + " " + pair[1], x.day(1, 2, 0, 1, 1), LoafGates.OUTSIDE);
        }
        Check.write(x, 1, 2, 0, 5, 0, 17);
        check.same("outside behind a wrong one", x.day(1, 2, 0, 2, 1), LoafGates.OUTSIDE);
        check.same("the wrong one alone", x.day(1, 2, 0, 1, 1), 0);
    }

    private static void dayRefusals() {
        LoafGates none = new LoafGates();
        check.same("no sheet", none.day(4, 3, 0, 21, 5), LoafGates.UNKNOWN);
        check.same("lane", none.day(0, 3, 0, 0, 0), LoafGates.OUTSIDE);
        check.same("n 21", none.day(0, 0, 0, 21, 0), LoafGates.OUTSIDE);
        check.same("n -1", none.day(0, 0, 0, -1, 0), LoafGates.OUTSIDE);
        int[] outside = {-1, 5, 9, 16};
        for (int what : outside) check.same("what " + what, none.day(0, 0, 0, 0, what), LoafGates.OUTSIDE);
        check.same("no winter", none.day(0, 0, 0, 0, 0), LoafGates.STATE);
        LoafGates x = Check.of(FIVE);
        check.same("nothing", x.day(3, 0, -1, 1, 0), -11);
        x.sheet(3, 1, 40);
        check.same("cast ahead of index", x.day(3, 2, -1, 1, 0), -12);
        check.same("cast's fault", x.fault(), 2);
        check.same("ahead", x.day(3, 1, -1, 0, 0), -13);
        check.same("beyond", x.day(3, 1, 41, 0, 0), -13);
        check.same("half a pair beyond", x.day(3, 1, 1, 20, 0), -13);
        check.same("wraps", x.day(3, 1, Integer.MAX_VALUE, 1, 0), -13);
        check.same("index's fault", x.fault(), 3);
        check.same("none at the end", x.day(3, 1, 40, 0, 1), LoafGates.NONE);
        check.same("fault gone", x.fault(), 0);
        check.same("twenty", x.day(3, 1, 0, 20, 1), LoafGates.NONE);
    }

    private static void knowing() {
        LoafGates x = Check.of("w,1;p1100;p1100;p1100");
        check.same("knows", x.know(0, 1), 1);
        check.same("from one to the other alone", x.far(1, 0), LoafGates.NONE);
        check.same("no more", x.know(0, 1), 0);
        check.same("and so not", x.far(0, 1), LoafGates.NONE);
        check.same("again", x.know(0, 1), 1);
        check.same("itself", x.know(1, 1), LoafGates.UNKNOWN);
        check.same("none", x.know(3, 0), LoafGates.UNKNOWN);
        check.same("of none", x.know(0, -1), LoafGates.UNKNOWN);
        check.same("in no winter", new LoafGates().know(0, 1), LoafGates.UNKNOWN);
    }

    private static void farOfTwo() {
        LoafGates x = Check.of("w,1;p1100;p1100;p1100;p1100;p1100;p1100");
        for (int c = 0; c < 5; c++) x.know(c, c + 1);
        check.same("all along", x.far(0, 5), 5);
        check.same("itself", x.far(3, 3), 0);
        check.same("back", x.far(5, 0), LoafGates.NONE);
        x.know(1, 4);
        check.same("a shorter way", x.far(0, 5), 3);
        check.same("none", x.far(6, 6), LoafGates.UNKNOWN);
        check.same("of none", x.far(0, -1), LoafGates.UNKNOWN);
        check.same("in no winter", new LoafGates().far(0, 0), LoafGates.UNKNOWN);
    }
}
