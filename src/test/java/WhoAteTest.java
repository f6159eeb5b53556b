/** Promises 22 to 27: who ate. */
public final class WhoAteTest {
    private static final Check check = new Check();
    private static final String FIVE = "w,5,2,0;p3400;c4401;g2202;p1015;c0924";

    public static void main(String[] args) {
        readingsNumbered();
        readingsTakenBack();
        setsOfReadings();
        readingsAsAllIsNow();
        setsRefused();
        oddsOfLoaves();
        oddsRefused();
        check.end();
    }

    private static void readingsNumbered() {
        LoafGates x = Check.of(FIVE);
        for (int k = 0; k < 8; k++) check.same("number", x.reading(k % 5, k), k);
        check.same("a ninth", x.reading(0, 0), LoafGates.FULL);
        check.same("a ninth of none", x.reading(5, 10), LoafGates.UNKNOWN);
        check.same("a ninth of 10", x.reading(0, 10), LoafGates.OUTSIDE);
        check.same("-1", x.reading(0, -1), LoafGates.OUTSIDE);
        check.same("of -1", x.reading(-1, 0), LoafGates.UNKNOWN);
        check.same("eight", x.many(4), 8);
        check.same("in no winter", new LoafGates().reading(0, 0), LoafGates.UNKNOWN);
    }

    private static void readingsTakenBack() {
        LoafGates x = Check.of(FIVE);
        check.same("none of none", x.back(0), 0);
        check.same("one of none", x.back(1), LoafGates.OUTSIDE);
        x.reading(1, 4);
        x.reading(0, 9);
        check.same("nothing fits", x.chalks(), 0);
        check.same("three of two", x.back(3), LoafGates.OUTSIDE);
        check.same("-1", x.back(-1), LoafGates.OUTSIDE);
        check.same("the last", x.back(1), 1);
        check.same("the first holds", x.chalks(), 1022);
        check.same("its number is free", x.reading(3, 1), 1);
        check.same("all", x.back(2), 0);
        check.same("all fits", x.chalks(), 1023);
        check.same("in no winter", new LoafGates().back(0), 0);
        check.same("one in no winter", new LoafGates().back(1), LoafGates.OUTSIDE);
    }

    private static void setsOfReadings() {
        LoafGates x = Check.of(FIVE);
        check.same("kinds of none read", x.kinds(0), 7);
        check.same("shows of none read", x.shows(0), 1023);
        x.reading(1, 4);
        int[] kinds = {1, 6, 7, 7, 7};
        int[] shows = {31, 1008, 7, 1023, 1023};
        for (int c = 0; c < 5; c++) {
            check.same("kinds of " + c, x.kinds(c), kinds[c]);
            check.same("shows of " + c, x.shows(c), shows[c]);
        }
        check.same("chalks", x.chalks(), 1022);
        x.reading(2, 0);
        check.same("kinds by two", x.kinds(2), 3);
        check.same("kind stays", x.ofComer(2, 0), 2);
        check.same("show stays", x.ofComer(2, 2), 2);
        check.same("chalk stays", x.many(6), 1);
    }

    private static void readingsAsAllIsNow() {
        LoafGates x = Check.of("w,1;p1501;p1500");
        x.reading(0, 1);
        check.same("earlier at first", x.shows(1), 31);
        x.show(0, 7);
        check.same("by its show now", x.shows(1), 127);
        x.manner(2);
        check.same("by the hour now", x.shows(1), 0);
        x.bake(0, 2);
        check.same("by loaves now", x.shows(1), 1023);
        check.same("kinds by loaves now", x.kinds(1), 7);
        check.same("chalks by loaves now", x.chalks(), 1023);
        x.bake(0, 0);
        check.same("kinds by no loaves now", x.kinds(1), 0);
        x.bake(0, 1);
        check.same("shows by one loaf now", x.shows(1), 0);
        x.bake(0, 2);
        check.same("shows by two again", x.shows(0), 1023);
    }

    private static void setsRefused() {
        LoafGates x = Check.of(FIVE);
        check.same("kinds of none", x.kinds(5), LoafGates.UNKNOWN);
        check.same("kinds of -1", x.kinds(-1), LoafGates.UNKNOWN);
        check.same("shows of none", x.shows(5), LoafGates.UNKNOWN);
        check.same("shows of -1", x.shows(-1), LoafGates.UNKNOWN);
        LoafGates none = new LoafGates();
        check.same("kinds in no winter", none.kinds(0), LoafGates.UNKNOWN);
        check.same("shows in no winter", none.shows(0), LoafGates.UNKNOWN);
        check.same("chalks in no winter", none.chalks(), LoafGates.STATE);
    }

    private static void share(LoafGates x, int c, int upper, int lower) {
        check.same("upper of " + c, x.odds(c, 0), upper);
        check.same("lower of " + c, x.odds(c, 1), lower);
    }

    private static void oddsOfLoaves() {
        LoafGates x = Check.of(FIVE);
        share(x, 0, 7, 10);
        share(x, 1, 1, 1);
        share(x, 2, 3, 10);
        share(x, 3, 1, 1);
        share(x, 4, 0, 1);
        x.manner(2);
        x.chalk(9);
        x.reading(0, 9);
        share(x, 0, 7, 10);
        check.same("manner stays", x.many(5), 2);
        check.same("chalk stays", x.many(6), 9);
        x.bake(0, 0);
        share(x, 0, 0, 1);
        LoafGates y = Check.of("w,1;p1301;c2000");
        share(y, 0, 1, 10);
        share(y, 1, 9, 10);
        LoafGates z = Check.of("w,1;p2900;c1201");
        share(z, 0, 14, 15);
        share(z, 1, 1, 15);
    }

    private static void oddsRefused() {
        LoafGates x = Check.of(FIVE);
        check.same("of none", x.odds(5, 0), LoafGates.LOST);
        check.same("of -1", x.odds(-1, 0), LoafGates.LOST);
        check.same("which 2", x.odds(0, 2), LoafGates.LOST);
        check.same("which -1", x.odds(0, -1), LoafGates.LOST);
        check.same("in no winter", new LoafGates().odds(0, 0), LoafGates.LOST);
        check.same("LOST", LoafGates.LOST, Long.MIN_VALUE);
    }
}
