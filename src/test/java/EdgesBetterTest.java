import java.lang.reflect.Field;

/** Promises 13 to 21: what is first, last, too small, too large, empty, full or refused. */
public final class EdgesBetterTest {
    private static final Edge edge = new Edge(13, 21);
    private static final int UNKNOWN = LoafGates.UNKNOWN, OUTSIDE = LoafGates.OUTSIDE, STATE = LoafGates.STATE;
    private static final int NONE = LoafGates.NONE;
    private static final int[] NOT_0_OR_1 = {-1, 2, Edge.LEAST, Edge.MOST};

    public static void main(String[] args) {
        lanternRefused();
        lanterns();
        bestLantern();
        withoutRefused();
        withoutByManner();
        gainRefused();
        gains();
        needs();
        partedRefused();
        partedAnew();
        givenOn();
        givenInARow();
        settlesRefused();
        settling();
        settlesWithin300();
        asAllIsNow();
        moreRefused();
        more();
        edge.end();
    }

    private static LoafGates chalked(String text, int chalk) {
        LoafGates x = Check.of(text);
        x.chalk(chalk);
        return x;
    }

    // ---- promise 13

    private static void lanternRefused() {
        for (int v : new int[] {-1, 31, Edge.LEAST, Edge.MOST}) {
            edge.refused(13, Edge::five, OUTSIDE, "lantern", v, 0);
            edge.refused(13, Edge::five, OUTSIDE, "lantern", v, 1);
            edge.refused(13, Edge::rows, OUTSIDE, "lantern", v, 0);
        }
        for (int what : NOT_0_OR_1) {
            edge.refused(13, Edge::five, OUTSIDE, "lantern", 0, what);
            edge.refused(13, Edge::five, OUTSIDE, "lantern", 30, what);
            edge.refused(13, Edge::rows, OUTSIDE, "lantern", 0, what);
        }
        edge.refused(13, Edge::rows, STATE, "lantern", 0, 0);
        edge.refused(13, Edge::rows, STATE, "lantern", 30, 1);
    }

    private static void held(LoafGates x, int v, int hungryHeld, int othersNot) {
        edge.same(13, "hungry held fed by " + v, x.lantern(v, 0), hungryHeld);
        edge.same(13, "others not by " + v, x.lantern(v, 1), othersNot);
    }

    private static void lanterns() {
        LoafGates x = Check.of("w,0;p1400;c0300;p9400");
        held(x, 0, 2, 0);
        held(x, 4, 2, 0);
        held(x, 5, 0, 1);
        held(x, 30, 0, 1);
        LoafGates greatest = chalked("w,0;g1900;g0900", 9);
        held(greatest, 27, 1, 0);
        held(greatest, 28, 0, 1);
        LoafGates least = Check.of("w,0;p1000;p0000");
        held(least, 0, 1, 0);
        held(least, 1, 0, 1);
        held(Check.of("w,0;p1900;p1900;p1900;p1900;p1900;p1900"), 9, 6, 0);
        held(Check.of("w,0;p0900;p0900;p0900;p0900;p0900;p0900"), 10, 0, 6);
    }

    // ---- promise 14

    private static void best(LoafGates x, int due) {
        edge.same(14, "best", x.best(), due);
    }

    private static void bestLantern() {
        edge.refused(14, LoafGates::new, STATE, "best");
        edge.refused(14, Edge::rows, STATE, "best");
        best(Check.of("w,0;p0000"), 0);
        best(Check.of("w,0;p0900"), 0);
        best(Check.of("w,0;p1000"), 1);
        best(Check.of("w,0;p1900"), 10);
        best(chalked("w,0;g1900", 9), 28);
        best(chalked("w,0;g1900", 0), 19);
        best(Check.of("w,0;p1500;p0500"), 0);
        best(Check.of("w,0;p1500;p0600"), 6);
        best(Check.of("w,0;p1600;p0500"), 0);
        best(Check.of("w,0;p1500;p1600;p0400"), 7);
        best(Check.of("w,0;p1500;p0400;p0600"), 0);
    }

    // ---- promise 15

    private static void withoutRefused() {
        for (int v : new int[] {-1, 5, Edge.LEAST, Edge.MOST}) {
            edge.refused(15, Edge::five, OUTSIDE, "without", v);
            edge.refused(15, Edge::rows, OUTSIDE, "without", v);
        }
        for (int v = 0; v <= 4; v++) edge.refused(15, Edge::rows, STATE, "without", v);
    }

    private static void without(String text, int... due) {
        LoafGates x = Check.of(text);
        for (int manner = 0; manner < 3; manner++) {
            x.manner(manner);
            for (int v = 0; v < 5; v++) edge.same(15, text + " by " + v, x.without(v), due[v]);
            edge.same(15, "manner stays", x.many(5), manner);
        }
    }

    private static void withoutByManner() {
        without("w,0;p0000", 0, 0, 0, 0, 0);
        without("w,0;p1000;p1000;p1000;p1000;p1000;p1000", 6, 6, 6, 6, 0);
        without("w,2;p2909;p1000;p1000", 2, 2, 1, 1, 2);
        without("w,2;p2009;p1900;p1900", 1, 2, 1, 1, 0);
        without("w,2;p2000;p1909;p1909", 1, 2, 2, 1, 0);
    }

    // ---- promise 16

    private static void gainRefused() {
        for (int c : Edge.NO_COMER_OF_FIVE) {
            edge.refused(16, Edge::five, UNKNOWN, "gain", c);
            edge.refused(17, Edge::five, UNKNOWN, "needs", c);
        }
        edge.refused(16, LoafGates::new, UNKNOWN, "gain", 0);
        edge.refused(17, LoafGates::new, UNKNOWN, "needs", 0);
        edge.same(16, "of the sixth", Check.of(Edge.SIX).gain(5), NONE);
        edge.same(17, "of the sixth", Check.of(Edge.SIX).needs(5), 0);
    }

    private static void gain(String text, int c, int due) {
        LoafGates x = Check.of(text);
        int show = x.ofComer(c, 2);
        edge.same(16, text + " of " + c, x.gain(c), due);
        edge.same(16, "show stays", x.ofComer(c, 2), show);
        for (int manner = 1; manner < 3; manner++) {
            x.manner(manner);
            edge.same(16, text + " of " + c + " by manner " + manner, x.gain(c), NONE);
        }
    }

    private static void gains() {
        gain("w,1;p1900;p1901", 1, NONE);
        gain("w,1;p1900;p1801", 1, NONE);
        gain("w,1;p1800;p1001", 1, 9);
        gain("w,1;p1901;p1000", 1, 9);
        gain("w,1;p1901;p1900", 1, NONE);
        gain("w,1;p1300;p1301", 1, 4);
        gain("w,1;p1301;p1200", 1, 3);
        gain("w,1;p1200;p1300", 0, 3);
        gain("w,1;p1300;p1200", 1, 4);
        gain("w,3;p2300;p3200", 1, 4);
        gain("w,3;p2300;p1200", 1, NONE);
        gain("w,1;p1300;p0200", 1, NONE);
        gain("w,0;p1300;p1200", 1, NONE);
        gain("w,9;p9000", 0, NONE);
        gain("w,8;p9000", 0, NONE);
        gain("w,1;p1900;g1300", 1, 5);
        gain("w,1;p1901;g1300", 1, 4);
        gain("w,3;p2500;p2300;p3000", 2, 4);
    }

    // ---- promise 17

    private static void needs(String text, int c, int due) {
        LoafGates x = Check.of(text);
        for (int chalk : new int[] {0, 1, 9}) {
            x.chalk(chalk);
            edge.same(17, text + " of " + c + " at " + chalk, x.needs(c), due);
            edge.same(17, "chalk stays", x.many(6), chalk);
        }
    }

    private static void needs() {
        needs("w,1;p1000", 0, 0);
        needs("w,1;p9000", 0, 0);
        needs("w,0;p1000", 0, NONE);
        needs("w,9;p0000", 0, NONE);
        needs("w,1;p1900;c1000", 1, NONE);
        needs("w,1;p1901;c1000", 1, 9);
        needs("w,1;p1800;c1000", 1, 9);
        needs("w,1;p1500;c1500", 0, 0);
        needs("w,1;p1500;c1500", 1, 1);
        needs("w,1;p1501;c1500", 0, NONE);
        needs("w,1;p1501;c1500", 1, 0);
        needs("w,1;p1900;g1401", 1, 2);
        LoafGates hours = Check.of("w,1;p1900;c1001");
        hours.manner(2);
        edge.same(17, "the first by the hour", hours.needs(0), 0);
        edge.same(17, "the last by the hour", hours.needs(1), NONE);
    }

    // ---- promise 18

    private static void partedRefused() {
        for (int k : new int[] {-2, 3, Edge.LEAST, Edge.MOST}) {
            edge.refused(18, Edge::five, OUTSIDE, "parted", k);
            edge.refused(18, Edge::rows, OUTSIDE, "parted", k);
        }
        for (int k = -1; k <= 2; k++) edge.refused(18, Edge::rows, STATE, "parted", k);
    }

    private static void parted(String text, int... due) {
        LoafGates x = Check.of(text);
        String before = Edge.digest(x);
        LoafGates y = Check.of(text);
        for (int k = -1; k < 3; k++) edge.same(18, text + " at " + k, y.parted(k), due[k + 1]);
        edge.same(18, "nothing is changed", before.equals(Edge.digest(y)) ? 1 : 0, 1);
    }

    private static void partedAnew() {
        parted("w,0;p1000", 1, 0, NONE, NONE);
        parted("w,9;p1000", 0, 9, NONE, NONE);
        parted("w,0,0;p1000", 1, 0, 0, NONE);
        parted("w,9,9;p1000", 0, 9, 9, NONE);
        parted("w,9,8;p0000", 0, 8, 9, NONE);
        parted("w,9,1;p1000", 0, 1, 9, NONE);
        parted("w,9,0;p1000", 0, 1, 8, NONE);
        parted("w,9,0;p1010", 0, 0, 9, NONE);
        parted("w,1,0;p1000;p1010", 1, 0, 1, NONE);
        parted("w,0,0,0;p1000", 1, 0, 0, 0);
        parted("w,9,9,9;p1000", 0, 9, 9, 9);
        parted("w,9,9,0;p1000", 0, 1, 8, 9);
        parted("w,9,0,0;p0000", 0, 0, 0, 9);
        parted("w,9,1,0;p0000", 0, 0, 1, 9);
        parted("w,0,0,2;p1000;p1010;p1020", 1, 0, 1, 1);
        parted("w,0,0,3;p1000;p1010;p1020", 0, 1, 1, 1);
        parted("w,0,0,0;p1000;p1000;p1010;p1010;p1020;p1020", 6, 0, 0, 0);
    }

    // ---- promise 19

    private static LoafGates knowing(String text, int... pairs) {
        LoafGates x = Check.of(text);
        for (int k = 0; k < pairs.length; k += 2) x.know(pairs[k], pairs[k + 1]);
        return x;
    }

    private static void given(int due, String text, int... pairs) {
        edge.same(19, text, knowing(text, pairs).given(), due);
    }

    private static void givenOn() {
        edge.refused(19, LoafGates::new, STATE, "given");
        edge.refused(19, Edge::rows, STATE, "given");
        given(0, "w,0;p0000");
        given(0, "w,1;p1000;p0000", 0, 1);
        given(0, "w,1;p9000");
        given(NONE, "w,0;p1000;p0000", 1, 0);
        given(NONE, "w,2,0;p2000;p1010");
        given(NONE, "w,2,0;p2000;p1010", 1, 0);
        given(1, "w,2,0;p2000;p1010", 0, 1);
        given(1, "w,2,0;p2000;p9010", 0, 1);
        given(NONE, "w,1,0;p1000;p1010", 0, 1);
        given(NONE, "w,1,0;p2000;p1010", 0, 1);
        given(1, "w,2;p9100;p1000", 0, 1);
        given(NONE, "w,2,0;p2000;p1010;p1010", 0, 1, 0, 2);
        given(2, "w,3,0;p3000;p1010;p1010", 0, 1, 0, 2);
        given(NONE, "w,9,0;p9000;p1010;p1010", 0, 1);
        given(3, "w,9,0;p9000;p1010;p1010", 0, 1, 1, 2);
        given(2, "w,2,2,0;p2000;p2010;p1020;p1020", 0, 2, 0, 3, 1, 2);
        given(NONE, "w,2,2,0;p2000;p2010;p1020;p1020", 0, 2, 0, 3);
        given(2, "w,2,2,0;p2000;p2010;p1020;p1020;p0020", 0, 2, 1, 3, 1, 2, 0, 4, 4, 3);
        given(1 + 3, "w,2,3,0;p2000;p3010;p1020;p1020;p0020", 0, 2, 1, 4, 4, 2, 2, 3);
        given(2 + 1, "w,2,3,0;p2000;p3010;p1020;p1020;p0020", 0, 2, 1, 4, 4, 2, 2, 3, 0, 3);
    }

    private static void givenInARow() {
        int[] row = {0, 1, 1, 2, 2, 3, 3, 4, 4, 5};
        String others = ";p1010;p1010;p1010;p1010;p1010";
        given(1 + 2 + 3 + 4 + 5, "w,6,0;p6000" + others, row);
        given(NONE, "w,5,0;p5000" + others, row);
        given(NONE, "w,6,0;p5000" + others, row);
        given(15, "w,9,0;p9000" + others, row);
        LoafGates x = knowing("w,6,0;p6000" + others, row);
        String before = Edge.digest(knowing("w,6,0;p6000" + others, row));
        x.given();
        edge.same(19, "nothing is changed", before.equals(Edge.digest(x)) ? 1 : 0, 1);
    }

    // ---- promise 20

    private static void settlesRefused() {
        for (int what : NOT_0_OR_1) {
            edge.refused(20, Edge::five, OUTSIDE, "settles", what);
            edge.refused(20, Edge::rows, OUTSIDE, "settles", what);
        }
        edge.refused(20, Edge::rows, STATE, "settles", 0);
        edge.refused(20, Edge::rows, STATE, "settles", 1);
    }

    private static void settles(LoafGates x, int behind, int by) {
        edge.same(20, "behind how many", x.settles(0), behind);
        edge.same(20, "by how many", x.settles(1), by);
    }

    private static void settling() {
        settles(Check.of("w,0;p0500"), 0, 1);
        settles(Check.of("w,0;p1900"), 0, 1);
        settles(Check.of("w,1;p1000"), 0, 1);
        settles(Check.of("w,0;p1000"), 9, 1);
        settles(Check.of("w,1;p1900"), 9, 1);
        settles(Check.of("w,0;p1800"), 1, 1);
        settles(Check.of("w,1;p1000;p1000"), 1, 2);
        settles(Check.of("w,1;p1000;p1100"), 0, 2);
        settles(Check.of("w,0,1;p1800;p1910"), 9, 1);
        settles(Check.of("w,0,1;p1810;p1000"), 9, 1);
        settles(Check.of("w,0;p1000;p1100;p1200;p1300;p1400;p1500"), 9, 1);
        LoafGates x = Edge.five();
        x.settles(0);
        edge.same(20, "nothing is changed", Edge.digest(Edge.five()).equals(Edge.digest(x)) ? 1 : 0, 1);
    }

    /**
     * No winter that a text can tell takes so long, so a show is set from within that no call could set: one who
     * eats shows 1 less each winter, and behind that many comes back by 1.
     */
    private static void settlesWithin300() {
        int[][] due = {{298, 298, 1}, {299, 299, 1}, {300, NONE, NONE}, {301, NONE, NONE}, {5000, NONE, NONE}};
        for (int[] row : due) {
            LoafGates x = Check.of("w,1;p1000");
            showFromWithin(x, row[0]);
            settles(x, row[1], row[2]);
        }
        LoafGates again = Check.of("w,1;p1000");
        settles(again, 0, 1);
        showFromWithin(again, 300);
        settles(again, NONE, NONE);
        showFromWithin(again, 299);
        settles(again, 299, 1);
    }

    private static void showFromWithin(LoafGates x, int v) {
        try {
            Field now = LoafGates.class.getDeclaredField("now");
            now.setAccessible(true);
            Field show = now.get(x).getClass().getDeclaredField("show");
            show.setAccessible(true);
            ((int[]) show.get(now.get(x)))[0] = v;
        } catch (ReflectiveOperationException gone) {
            throw new IllegalStateException("the class holds shows otherwise now", gone);
        }
    }

    /** What is asked behind changes, too, is told by how all is then. */
    private static void asAllIsNow() {
        LoafGates x = Check.of("w,2,0;p2900;p1000;p1110");
        edge.same(15, "at first", x.without(2), 2);
        edge.same(16, "at first", x.gain(2), NONE);
        edge.same(17, "at first", x.needs(2), NONE);
        edge.same(18, "at first", x.parted(-1), 1);
        edge.same(20, "at first", x.settles(0), 9);
        x.lead(2, 0);
        x.show(0, 1);
        x.bake(0, 1);
        edge.same(15, "then", x.without(2), 2);
        edge.same(16, "then", x.gain(2), 2);
        edge.same(17, "then", x.needs(0), 0);
        edge.same(18, "then", x.parted(-1), 2);
        edge.same(18, "loaves then", x.parted(0), 1);
        x.bake(0, 0);
        edge.same(15, "without loaves", x.without(2), 3);
        edge.same(16, "without loaves", x.gain(2), NONE);
        edge.same(17, "without loaves", x.needs(0), NONE);
        edge.same(18, "without loaves", x.parted(-1), 3);
        edge.same(20, "without loaves", x.settles(0), 9);
        x.bake(1, 9);
        edge.same(18, "with loaves at the other", x.parted(-1), 0);
        edge.same(18, "its loaves", x.parted(1), 5);
    }

    // ---- promise 21

    private static void moreRefused() {
        for (int n : new int[] {0, -1, 100, Edge.LEAST, Edge.MOST}) {
            edge.refused(21, Edge::five, OUTSIDE, "more", n);
            edge.refused(21, Edge::rows, OUTSIDE, "more", n);
        }
        edge.refused(21, Edge::rows, STATE, "more", 1);
        edge.refused(21, Edge::rows, STATE, "more", 99);
    }

    private static void more(String text, int n, int without, int... shows) {
        LoafGates x = Check.of(text);
        edge.same(21, text + " " + n + " more", x.more(n), without);
        for (int c = 0; c < shows.length; c++) {
            edge.same(21, text + " " + n + " more, show of " + c, x.ofComer(c, 2), shows[c]);
        }
    }

    private static void more() {
        more("w,0;p1800", 1, 1, 9);
        more("w,0;p1900", 1, 1, 9);
        more("w,0;p1000", 99, 1, 9);
        more("w,1;p1100", 1, 0, 0);
        more("w,1;p1000", 1, 0, 0);
        more("w,1;p1900", 99, 0, 0);
        more("w,0;p0000", 99, 0, 0);
        more("w,0;p0900", 99, 0, 9);
        more("w,1;p0500;p1500", 99, 0, 5, 0);
        more("w,1;p1000;p1000", 1, 1, 0, 1);
        more("w,1;p1000;p1000", 2, 1, 1, 0);
        more("w,1;p1000;p1000", 3, 1, 0, 1);
        more("w,1;p1000;p1000", 98, 1, 1, 0);
        more("w,1;p1000;p1000", 99, 1, 0, 1);
        more("w,2;p2100;p1000;p1000", 1, 1, 0, 1, 1);
        more("w,0;p1000;p1000;p1000;p1000;p1000;p1000", 1, 6, 1, 1, 1, 1, 1, 1);
        LoafGates x = Check.of("w,0;p1500");
        x.more(2);
        x.more(1);
        edge.same(21, "shows stay so", x.ofComer(0, 2), 8);
    }
}
