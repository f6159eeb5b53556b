import java.util.function.Supplier;

/** Promises 10 to 12: what is first, last, too small, too large, empty, full or refused. */
public final class EdgesDayTest {
    private static final Edge edge = new Edge(10, 12);
    private static final int UNKNOWN = LoafGates.UNKNOWN, OUTSIDE = LoafGates.OUTSIDE, STATE = LoafGates.STATE;
    private static final int NONE = LoafGates.NONE, NULL = -11, CAST = -12, INDEX = -13;
    private static final int[] ASKED = {0, 1, 2, 3, 4, 10, 11, 12, 13, 14, 15};
    private static final int[] NOT_ASKED = {-1, 5, 6, 7, 8, 9, 16, Edge.LEAST, Edge.MOST};
    private static final int[] NO_COUNT = {-1, 21, Edge.LEAST, Edge.MOST};
    private static final int[] NO_COMER_OF_SIX = {-1, 6, Edge.LEAST, Edge.MOST};
    // The greatest number told with each act.
    private static final int[] MOST_WITH = {9, 9, 9, 9, 9, 9, 2, 9, 9, 9, 9, 2, 2, 2, 2, 2, 2};

    public static void main(String[] args) {
        dayRefused();
        dayFaults();
        pairsRefused();
        firstAndLastOfEachAct();
        eachActDone();
        howManyPairs();
        comersThatAreNot();
        gatesThatAreNot();
        firstWrongOfSeveral();
        answersAtTheirBounds();
        nothingChanged();
        known();
        howFar();
        edge.end();
    }

    // ---- promise 10

    private static void dayRefused() {
        Supplier<LoafGates> five = Edge::five;
        for (int k : Edge.NO_SHEET) {
            edge.refused(10, five, UNKNOWN, "day", k, 3, -1, 21, 5);
            edge.refused(10, Edge::rows, UNKNOWN, "day", k, 0, 0, 0, 0);
        }
        for (int lane : Edge.NO_LANE) {
            edge.refused(10, five, OUTSIDE, "day", 1, lane, -1, 0, 0);
            edge.refused(10, five, OUTSIDE, "day", 3, lane, -1, 0, 0);
            edge.refused(10, Edge::rows, OUTSIDE, "day", 1, lane, 0, 0, 0);
        }
        for (int n : NO_COUNT) {
            edge.refused(10, five, OUTSIDE, "day", 1, 0, 0, n, 0);
            edge.refused(10, five, OUTSIDE, "day", 3, 0, -1, n, 0);
            edge.refused(10, Edge::rows, OUTSIDE, "day", 1, 0, 0, n, 0);
        }
        for (int what : NOT_ASKED) {
            edge.refused(10, five, OUTSIDE, "day", 1, 0, 0, 0, what);
            edge.refused(10, five, OUTSIDE, "day", 3, 0, -1, 0, what);
            edge.refused(10, Edge::rows, OUTSIDE, "day", 1, 0, 0, 0, what);
        }
        for (int what : ASKED) {
            edge.refused(10, Edge::rows, STATE, "day", 1, 0, 0, 0, what);
            edge.refused(10, Edge::rows, STATE, "day", 1, 2, -1, 1, what);
            edge.refused(10, Edge::rows, STATE, "day", 3, 0, -1, 1, what);
        }
    }

    private static void dayFaults() {
        int[] laneOf = {2, 0, 1};
        for (int k = 0; k < 3; k++) {
            for (int lane = 0; lane < 3; lane++) {
                edge.refused(10, Edge::five, lane == laneOf[k] ? INDEX : CAST, "day", k, lane, -1, 1, 0);
            }
            edge.refused(10, Edge::five, NULL, "day", 3, k, -1, 1, 0);
            edge.refused(10, Edge::five, NULL, "day", 3, k, 0, 0, 1);
        }
        int[][] beyond = {{-1, 0}, {6, 0}, {5, 1}, {4, 1}, {2, 2}, {0, 3}, {0, 20}, {Edge.MOST, 0}, {Edge.MOST, 1},
            {Edge.MOST - 1, 1}, {Edge.LEAST, 0}, {Edge.LEAST, 20}};
        for (int[] b : beyond) edge.refused(10, Edge::five, INDEX, "day", 1, 0, b[0], b[1], 1);
        LoafGates x = Edge.five();
        for (int i = 0; i <= 5; i++) edge.same(10, "no pairs from " + i, x.day(1, 0, i, 0, 1), NONE);
        edge.same(10, "a pair at the end, of the sixth of five", x.day(1, 0, 3, 1, 1), 0);
        x.sheet(1, 0, 0);
        edge.same(10, "no pairs of no cells", x.day(1, 0, 0, 0, 1), NONE);
        edge.same(10, "no pairs of no cells from 1", x.day(1, 0, 1, 0, 1), INDEX);
        edge.same(10, "a pair of no cells", x.day(1, 0, 0, 1, 1), INDEX);
    }

    private static Supplier<LoafGates> fiveWithDay(int... pairs) {
        return () -> {
            LoafGates x = Edge.five();
            Check.write(x, 3, 2, pairs);
            return x;
        };
    }

    private static void pairsRefused() {
        for (int what : ASKED) {
            edge.refused(10, fiveWithDay(0, 17), OUTSIDE, "day", 3, 2, 0, 1, what);
            edge.refused(10, fiveWithDay(10, 0), OUTSIDE, "day", 3, 2, 0, 1, what);
            edge.refused(10, fiveWithDay(0, 0, 3, 16), OUTSIDE, "day", 3, 2, 0, 2, what);
            edge.refused(10, fiveWithDay(0, 5, 0, 0, 0, -1), OUTSIDE, "day", 3, 2, 0, 3, what);
        }
        for (int act : new int[] {-1, 17, Edge.LEAST, Edge.MOST}) {
            for (int v = 0; v <= 2; v++) edge.refused(10, fiveWithDay(v, act), OUTSIDE, "day", 3, 2, 0, 1, 1);
        }
        int[] wrongToo = new int[40];
        wrongToo[38] = 3;
        wrongToo[39] = 6;
        edge.refused(10, fiveWithDay(wrongToo), OUTSIDE, "day", 3, 2, 0, 20, 0);
        LoafGates x = fiveWithDay(wrongToo).get();
        edge.same(10, "a pair beyond n is not looked at", x.day(3, 2, 0, 19, 1), NONE);
        edge.same(10, "a pair ahead of i is not looked at", fiveWithDay(-1, -1, 0, 0).get().day(3, 2, 2, 1, 1), NONE);
    }

    private static int dayOf(LoafGates x, int what, int... pairs) {
        Check.write(x, 3, 2, pairs);
        return x.day(3, 2, 0, pairs.length / 2, what);
    }

    private static void firstAndLastOfEachAct() {
        for (int act = 0; act <= 16; act++) {
            LoafGates x = Check.of(Edge.SIX);
            edge.same(10, "0 and " + act, dayOf(x, 1, 0, act), NONE);
            edge.same(10, "the last and " + act, dayOf(x, 1, MOST_WITH[act], act), NONE);
            int[] beyond = {-1, MOST_WITH[act] + 1, Edge.LEAST, Edge.MOST};
            for (int v : beyond) edge.same(10, v + " and " + act, dayOf(x, 1, v, act), OUTSIDE);
        }
    }

    /** Each act alone, seen by what no other act would do. */
    private static void eachActDone() {
        for (int c = 0; c < 6; c++) {
            LoafGates x = Check.of("w,1;p1400;p1400;p1400;p1400;p1400;p1400");
            edge.same(10, "show 9 of " + c, dayOf(x, 10 + c, 9, c), 1);
            edge.same(10, "all others without", dayOf(x, 2, 9, c), 63 - (1 << c));
            edge.same(10, "show 0 of " + c, dayOf(x, 4, 0, c), 20);
        }
        LoafGates hours = Check.of("w,1;p1909;p2505;c1004");
        for (int v = 0; v < 3; v++) edge.same(10, "manner " + v, dayOf(hours, 10 + v, v, 6), 1);
        edge.same(10, "chalk 0", dayOf(hours, 4, 0, 7), 14);
        edge.same(10, "chalk 9", dayOf(hours, 4, 9, 7), 23);
        for (int g = 0; g < 3; g++) {
            LoafGates x = Check.of("w,1,1,1;p9000;p9010;p9020");
            edge.same(10, "loaves 9 at " + g, dayOf(x, 10 + g, 9, 8 + g), 9);
            edge.same(10, "loaves 0 at " + g, dayOf(x, 2, 0, 8 + g), 1 << g);
        }
        for (int c = 0; c < 6; c++) {
            LoafGates x = Check.of("w,0,2,3;p9000;p9000;p9000;p9000;p9000;p9000");
            for (int g = 0; g < 3; g++) edge.same(10, c + " to " + g, dayOf(x, 10 + c, g, 11 + c), g == 0 ? 0 : g + 1);
        }
    }

    private static void howManyPairs() {
        LoafGates x = Check.of("w,9;p1000");
        int[] pairs = new int[60];
        for (int p = 0; p < 20; p++) pairs[2 * p] = p % 10;
        Check.write(x, 3, 2, pairs);
        edge.same(10, "none is as all is now", x.day(3, 2, 0, 0, 4), 0);
        for (int n = 1; n <= 20; n++) edge.same(10, "the last of " + n, x.day(3, 2, 0, n, 4), (n - 1) % 10);
        edge.same(10, "21, though there are cells", x.day(3, 2, 0, 21, 4), OUTSIDE);
        edge.same(10, "20 at the end of the row", x.day(3, 2, 20, 20, 1), NONE);
        edge.same(10, "20, one too far", x.day(3, 2, 21, 20, 1), INDEX);
    }

    private static void comersThatAreNot() {
        for (int comers = 1; comers <= 6; comers++) {
            LoafGates x = Check.of("w,9" + ";p1000".repeat(comers));
            for (int c = 0; c < 6; c++) {
                edge.same(10, comers + " comers, show of " + c, dayOf(x, 1, 0, c), c < comers ? NONE : 0);
                edge.same(10, comers + " comers, lead of " + c, dayOf(x, 1, 0, 11 + c), c < comers ? NONE : 0);
                edge.same(10, comers + " comers, what " + c + " eats", dayOf(x, 10 + c), c < comers ? 1 : NONE);
            }
        }
        LoafGates x = Check.of("w,9;p1000");
        edge.same(10, "a wrong act ahead of one who is not there", dayOf(x, 15, 0, 5), -100);
    }

    private static void gatesThatAreNot() {
        for (int gates = 1; gates <= 3; gates++) {
            LoafGates x = Check.of("w" + ",9".repeat(gates) + ";p1000");
            for (int g = 0; g < 3; g++) {
                edge.same(10, gates + " gates, loaves at " + g, dayOf(x, 1, 0, 8 + g), g < gates ? NONE : 0);
                edge.same(10, gates + " gates, lead to " + g, dayOf(x, 1, g, 11), g < gates ? NONE : 0);
                int left = 9 * (gates - 1) - (g == 0 ? 0 : 1);
                edge.same(10, gates + " gates, left", dayOf(x, 3, 0, 8 + g), g < gates ? left : -100);
            }
        }
    }

    private static void firstWrongOfSeveral() {
        LoafGates x = Check.of("w,9;p1000");
        for (int first = 0; first < 20; first++) {
            int[] pairs = new int[40];
            for (int p = first; p < 20; p++) pairs[2 * p + 1] = 5;
            edge.same(10, "from " + first + " on", dayOf(x, 1, pairs), first);
            for (int what : new int[] {0, 2, 3, 4, 10, 15}) {
                edge.same(10, "from " + first + " on, what " + what, x.day(3, 2, 0, 20, what), -100 - first);
            }
            edge.same(10, "up to it", x.day(3, 2, 0, first, 1), NONE);
            x = Check.of("w,9;p1000");
        }
        edge.same(10, "it is no fault", x.fault(), 0);
    }

    private static void answersAtTheirBounds() {
        LoafGates x = Check.of("w,9,9,9;g1900;g1900;g1900;g1900;g1900;g1900");
        edge.same(10, "all eat", dayOf(x, 0), 6);
        edge.same(10, "nobody without", dayOf(x, 2), 0);
        edge.same(10, "left at all", dayOf(x, 3), 21);
        edge.same(10, "the greatest looks", dayOf(x, 4, 9, 7), 6 * 27);
        edge.same(10, "the least looks", dayOf(x, 4, 0, 0, 0, 1, 0, 2, 0, 3, 0, 4, 0, 5, 0, 7), 0);
        edge.same(10, "nobody eats", dayOf(x, 0, 0, 8), 0);
        edge.same(10, "all without", dayOf(x, 2, 0, 8), 63);
        edge.same(10, "left at the others", dayOf(x, 3, 0, 8), 18);
        edge.same(10, "none left", dayOf(x, 3, 6, 8, 0, 9, 0, 10), 0);
        LoafGates fed = Check.of("w,0;p0000");
        edge.same(10, "no hunger, none eats", dayOf(fed, 0), 0);
        edge.same(10, "no hunger, nobody without", dayOf(fed, 2), 0);
        edge.same(10, "no hunger, eats none", dayOf(fed, 10), 0);
    }

    private static void nothingChanged() {
        int[] pairs = {9, 0, 9, 1, 2, 6, 9, 7, 0, 8, 9, 9, 0, 10, 2, 11, 1, 12};
        for (int what : ASKED) {
            LoafGates x = fiveWithDay(pairs).get();
            x.day(3, 2, 0, 9, what);
            boolean asItWas = Edge.digest(x).equals(Edge.digest(fiveWithDay(pairs).get()));
            edge.same(10, "as all was, what " + what, asItWas ? 1 : 0, 1);
        }
    }

    // ---- promise 11

    private static void known() {
        for (int c : Edge.NO_COMER_OF_FIVE) {
            edge.refused(11, Edge::five, UNKNOWN, "know", c, 0);
            edge.refused(11, Edge::five, UNKNOWN, "know", 0, c);
            edge.refused(11, Edge::five, UNKNOWN, "know", c, c);
        }
        for (int c = 0; c < 5; c++) edge.refused(11, Edge::five, UNKNOWN, "know", c, c);
        edge.refused(11, LoafGates::new, UNKNOWN, "know", 0, 1);
        edge.refused(11, () -> Check.of("w,1;p1100"), UNKNOWN, "know", 0, 1);
        LoafGates x = Check.of(Edge.SIX);
        for (int c = 0; c < 6; c++) {
            for (int d = 0; d < 6; d++) {
                if (c == d) continue;
                edge.same(11, c + " knows " + d, x.know(c, d), 1);
                edge.same(11, c + " knows " + d + " no more", x.know(c, d), 0);
                edge.same(11, c + " knows " + d + " again", x.know(c, d), 1);
            }
        }
        edge.same(11, "all know all", x.far(5, 0), 1);
        x.know(5, 0);
        edge.same(11, "one the less", x.far(5, 0), 2);
        edge.same(11, "the other way stays", x.far(0, 5), 1);
    }

    // ---- promise 12

    private static void howFar() {
        for (int c : Edge.NO_COMER_OF_FIVE) {
            edge.refused(12, Edge::five, UNKNOWN, "far", c, 0);
            edge.refused(12, Edge::five, UNKNOWN, "far", 0, c);
            edge.refused(12, Edge::five, UNKNOWN, "far", c, c);
        }
        edge.refused(12, LoafGates::new, UNKNOWN, "far", 0, 0);
        LoafGates x = Check.of(Edge.SIX);
        for (int c : NO_COMER_OF_SIX) edge.same(12, "none " + c, x.far(c, 5), UNKNOWN);
        for (int c = 0; c < 6; c++) {
            for (int d = 0; d < 6; d++) edge.same(12, c + " to " + d + " of none", x.far(c, d), c == d ? 0 : NONE);
        }
        int[] row = {3, 0, 5, 1, 4, 2};
        for (int k = 0; k < 5; k++) x.know(row[k], row[k + 1]);
        for (int a = 0; a < 6; a++) {
            for (int b = 0; b < 6; b++) {
                edge.same(12, row[a] + " to " + row[b] + " in a row", x.far(row[a], row[b]), a <= b ? b - a : NONE);
            }
        }
        x.know(row[5], row[0]);
        for (int a = 0; a < 6; a++) {
            for (int b = 0; b < 6; b++) {
                edge.same(12, row[a] + " to " + row[b] + " in a ring", x.far(row[a], row[b]), (b - a + 6) % 6);
            }
        }
    }
}
