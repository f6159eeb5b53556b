/** Promises 13 to 21: what would be better. */
public final class BetterTest {
    private static final Check check = new Check();
    private static final String FIVE = "w,5,2,0;p3400;c4401;g2202;p1015;c0924";

    public static void main(String[] args) {
        lanterns();
        bestLantern();
        withoutByManner();
        gains();
        needsOfChalk();
        partedAnew();
        givenOn();
        givenByCapacity();
        givenTheNearestTogether();
        wintersThatSettle();
        wintersMore();
        noWinter();
        check.end();
    }

    private static void lanterns() {
        LoafGates x = Check.of("w,1;p1500;c1400;p0500;p0600");
        int[][] due = {{0, 2, 0}, {5, 2, 0}, {6, 0, 1}, {7, 0, 2}, {30, 0, 2}};
        for (int[] row : due) {
            check.same("hungry held fed at " + row[0], x.lantern(row[0], 0), row[1]);
            check.same("others not at " + row[0], x.lantern(row[0], 1), row[2]);
        }
        check.same("lantern 31", x.lantern(31, 0), LoafGates.OUTSIDE);
        check.same("lantern -1", x.lantern(-1, 0), LoafGates.OUTSIDE);
        check.same("lantern what 2", x.lantern(0, 2), LoafGates.OUTSIDE);
        check.same("lantern what -1", x.lantern(0, -1), LoafGates.OUTSIDE);
    }

    private static void bestLantern() {
        check.same("between", Check.of("w,1;p1500;c1400;p0500;p0600").best(), 6);
        check.same("none and one", Check.of("w,1;p1000").best(), 1);
        check.same("none hungry", Check.of("w,1;p0500").best(), 0);
        check.same("all hungry", Check.of("w,1;p1500;p1200").best(), 6);
        LoafGates grand = Check.of("w,1;g1900");
        grand.chalk(9);
        check.same("the greatest look", grand.best(), 28);
        check.same("of several the least", Check.of("w,1;p0300;p1500;p0700").best(), 0);
    }

    private static void withoutByManner() {
        LoafGates x = Check.of("w,2;p2901;p1502;p1400;p3009");
        int[] due = {3, 3, 2, 2, 2};
        for (int v = 0; v < 5; v++) check.same("without " + v, x.without(v), due[v]);
        x.manner(1);
        check.same("whatever manner is", x.without(0), 3);
        x.bake(0, 0);
        check.same("as loaves are now", x.without(2), 4);
        LoafGates looks = Check.of("w,2;p1905;p1805;p2000");
        check.same("fewest by looks", looks.without(3), 1);
        check.same("not by the hour", looks.without(2), 2);
        check.same("of several the least", Check.of(FIVE).without(4), 0);
        check.same("manner stays", x.many(5), 1);
        check.same("without 5", x.without(5), LoafGates.OUTSIDE);
        check.same("without -1", x.without(-1), LoafGates.OUTSIDE);
        LoafGates hunger = Check.of("w,3;p0909;p3101;p3000");
        check.same("all alike", hunger.without(4), 0);
    }

    private static void gains() {
        LoafGates x = Check.of(FIVE);
        int none = LoafGates.NONE;
        int[] due = {5, none, 3, none, none, LoafGates.UNKNOWN};
        for (int c = 0; c < due.length; c++) check.same("gain of " + c, x.gain(c), due[c]);
        check.same("show stays", x.ofComer(0, 2), 4);
        x.manner(2);
        check.same("by the hour nothing", x.gain(2), none);
        LoafGates late = Check.of("w,2;p3900;p3500");
        check.same("not beyond 9", late.gain(1), none);
        LoafGates early = Check.of("w,2;p3901;p3500");
        check.same("9 itself", early.gain(1), 9);
        check.same("gain of none", x.gain(-1), LoafGates.UNKNOWN);
    }

    private static void needsOfChalk() {
        LoafGates x = Check.of("w,2,1;p2700;c2301;g2202;p1010;p0010");
        check.same("less than now", x.needs(0), 0);
        check.same("chalked, always behind the grand one", x.needs(1), LoafGates.NONE);
        check.same("grand", x.needs(2), 4);
        check.same("alone", x.needs(3), 0);
        check.same("without hunger", x.needs(4), LoafGates.NONE);
        check.same("chalk stays", x.many(6), 1);
        check.same("never", Check.of("w,0;p1100").needs(0), LoafGates.NONE);
        x.bake(0, 0);
        check.same("as loaves are now", x.needs(0), LoafGates.NONE);
        check.same("nine", Check.of("w,1;p1900;c1001").needs(1), LoafGates.NONE);
        check.same("nine and earlier", Check.of("w,1;p1901;c1000").needs(1), 9);
        check.same("needs of none", x.needs(5), LoafGates.UNKNOWN);
    }

    private static void partedDue(String text, int... due) {
        LoafGates x = Check.of(text);
        for (int k = -1; k < 3; k++) check.same("parted of " + text + " " + k, x.parted(k), due[k + 1]);
        check.same("loaves stay", x.ofGate(0, 0), text.charAt(2) - '0');
    }

    private static void partedAnew() {
        int none = LoafGates.NONE;
        partedDue(FIVE, 1, 5, 1, 1);
        partedDue("w,9;p1100", 0, 9, none, none);
        partedDue("w,0;p1100", 1, 0, none, none);
        partedDue("w,4,0;p1110;p1110", 0, 0, 4, none);
        partedDue("w,9,9;p1100;p1110", 0, 9, 9, none);
        partedDue("w,9,9,1;p0000", 0, 1, 9, 9);
        partedDue("w,9,3,0;p3900;p1800;p9910;p1810;p1120", 1, 4, 1, 7);
        LoafGates x = Check.of("w,1;p1100");
        check.same("before", x.parted(-1), 0);
        x.bake(0, 0);
        check.same("as loaves are now", x.parted(-1), 1);
        check.same("loaves then", x.parted(0), 0);
        check.same("parted 3", x.parted(3), LoafGates.OUTSIDE);
        check.same("parted -2", x.parted(-2), LoafGates.OUTSIDE);
    }

    private static void givenOn() {
        LoafGates x = Check.of("w,4,0;p4900;p1800;p1110");
        check.same("nobody is known", x.given(), LoafGates.NONE);
        x.know(1, 0);
        x.know(2, 0);
        check.same("known the wrong way", x.given(), LoafGates.NONE);
        x.know(0, 1);
        check.same("one alone", x.given(), LoafGates.NONE);
        x.know(1, 2);
        check.same("by way of one without", x.given(), 1 + 2);
        x.know(0, 2);
        check.same("straight", x.given(), 2);
        check.same("none goes without", Check.of("w,1;p1100;p0000").given(), 0);
        LoafGates first = Check.of("w,2;p1100;p2900");
        check.same("the first goes without", first.given(), LoafGates.NONE);
        first.know(1, 0);
        check.same("and gets one", first.given(), 1);
        LoafGates two = Check.of("w,2;p2900;p1100");
        two.know(0, 1);
        check.same("one is kept", two.given(), 1);
        LoafGates one = Check.of("w,1;p1900;p1100");
        one.know(0, 1);
        check.same("who eats one gives none", one.given(), LoafGates.NONE);
    }

    private static void givenByCapacity() {
        LoafGates x = Check.of("w,2,2,0;p2900;p2910;p1120;p1120");
        x.know(0, 2);
        x.know(0, 3);
        check.same("one loaf for two", x.given(), LoafGates.NONE);
        x.know(2, 1);
        check.same("the other is known by nobody's way", x.given(), LoafGates.NONE);
        x.know(1, 0);
        check.same("each gives one", x.given(), 1 + 2);
        x.know(1, 2);
        check.same("the nearest for both is not taken twice", x.given(), 2);
    }

    private static void givenTheNearestTogether() {
        LoafGates x = Check.of("w,2,2,0;p2900;p2910;p1120;p1120;p0020");
        int[][] known = {{0, 2}, {0, 3}, {1, 2}, {1, 4}, {4, 0}};
        for (int[] pair : known) x.know(pair[0], pair[1]);
        check.same("the last who knows it is not best", x.given(), 2);
        x.know(0, 3);
        x.know(1, 3);
        check.same("from the other", x.given(), 2);
        x.know(0, 2);
        check.same("from one alone", x.given(), LoafGates.NONE);
        x.know(0, 1);
        check.same("by way of the other", x.given(), 1 + 2);
        LoafGates y = Check.of("w,2,2,0;p2900;p2910;p1120;p1120;p0020");
        int[][] ways = {{0, 2}, {0, 4}, {1, 4}, {4, 2}, {4, 3}};
        for (int[] pair : ways) y.know(pair[0], pair[1]);
        check.same("the fewest of all together", y.given(), 1 + 2);
    }

    private static void settle(String text, int behind, int by) {
        LoafGates x = Check.of(text);
        check.same("behind of " + text, x.settles(0), behind);
        check.same("by of " + text, x.settles(1), by);
        check.same("again", x.settles(0), behind);
    }

    private static void wintersThatSettle() {
        settle(FIVE, 11, 2);
        settle("w,0;p1500", 4, 1);
        settle("w,1;p1500", 5, 1);
        settle("w,0;p0500", 0, 1);
        settle("w,1;p1900;p1000", 4, 2);
        String slow = "w,9;c6007;c2202;c2401;p3009;c5206;p7009";
        settle(slow, behindByPassing(slow), 2);
        LoafGates x = Check.of(FIVE);
        check.same("what 2", x.settles(2), LoafGates.OUTSIDE);
        check.same("what -1", x.settles(-1), LoafGates.OUTSIDE);
        check.same("shows stay", x.ofComer(0, 2), 4);
    }

    /** Where it settles, told by winters that are really passed, one object for each number of them. */
    private static int behindByPassing(String text) {
        for (int t = 0; t < 99; t++) {
            if (shows(text, t).equals(shows(text, t + 2))) return t;
        }
        return -1;
    }

    private static String shows(String text, int winters) {
        LoafGates x = Check.of(text);
        if (winters > 0) x.more(winters);
        StringBuilder told = new StringBuilder();
        for (int c = 0; c < x.many(1); c++) told.append(x.ofComer(c, 2));
        return told.toString();
    }

    private static void wintersMore() {
        LoafGates x = Check.of("w,1,1;p1500;p1400;p0310;p1910;p1000");
        check.same("two go without", x.more(1), 2);
        int[] due = {4, 5, 3, 8, 1};
        for (int c = 0; c < due.length; c++) check.same("show of " + c, x.ofComer(c, 2), due[c]);
        check.same("who is first now", x.ofComer(1, 6), 1);
        LoafGates y = Check.of("w,1,0;p1000;p1910");
        check.same("bounds", y.more(99), 1);
        check.same("0 at least", y.ofComer(0, 2), 0);
        check.same("9 at most", y.ofComer(1, 2), 9);
        check.same("more 0", y.more(0), LoafGates.OUTSIDE);
        check.same("more 100", y.more(100), LoafGates.OUTSIDE);
        LoafGates once = Check.of(FIVE);
        LoafGates often = Check.of(FIVE);
        once.more(7);
        for (int t = 0; t < 7; t++) often.more(1);
        for (int c = 0; c < 5; c++) check.same("seven at once", once.ofComer(c, 2), often.ofComer(c, 2));
    }

    private static void noWinter() {
        LoafGates x = new LoafGates();
        check.same("lantern", x.lantern(0, 0), LoafGates.STATE);
        check.same("lantern 31", x.lantern(31, 0), LoafGates.OUTSIDE);
        check.same("best", x.best(), LoafGates.STATE);
        check.same("without", x.without(4), LoafGates.STATE);
        check.same("without 5", x.without(5), LoafGates.OUTSIDE);
        check.same("gain", x.gain(0), LoafGates.UNKNOWN);
        check.same("needs", x.needs(0), LoafGates.UNKNOWN);
        check.same("parted", x.parted(0), LoafGates.STATE);
        check.same("parted 3", x.parted(3), LoafGates.OUTSIDE);
        check.same("given", x.given(), LoafGates.STATE);
        check.same("settles", x.settles(1), LoafGates.STATE);
        check.same("settles 2", x.settles(2), LoafGates.OUTSIDE);
        check.same("more", x.more(1), LoafGates.STATE);
        check.same("more 0", x.more(0), LoafGates.OUTSIDE);
    }
}
