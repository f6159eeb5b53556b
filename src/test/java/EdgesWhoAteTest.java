/** Promises 22 to 27: what is first, last, too small, too large, empty, full or refused. */
public final class EdgesWhoAteTest {
    private static final Edge edge = new Edge(22, 27);
    private static final int UNKNOWN = LoafGates.UNKNOWN, OUTSIDE = LoafGates.OUTSIDE, STATE = LoafGates.STATE;

    public static void main(String[] args) {
        readingRefused();
        readingsUpToEight();
        backRefused();
        backOfEachNumber();
        setsRefused();
        kinds();
        shows();
        chalks();
        setsOfMany();
        asAllIsNow();
        oddsRefused();
        odds();
        edge.end();
    }

    private static LoafGates read(String text, int... readings) {
        LoafGates x = Check.of(text);
        for (int k = 0; k < readings.length; k += 2) x.reading(readings[k], readings[k + 1]);
        return x;
    }

    private static LoafGates eight() {
        LoafGates x = Edge.five();
        for (int k = 2; k < 8; k++) x.reading(k % 5, k);
        return x;
    }

    // ---- promise 22

    private static void readingRefused() {
        for (int c : Edge.NO_COMER_OF_FIVE) {
            edge.refused(22, Edge::five, UNKNOWN, "reading", c, 0);
            edge.refused(22, Edge::five, UNKNOWN, "reading", c, 10);
            edge.refused(22, EdgesWhoAteTest::eight, UNKNOWN, "reading", c, 0);
        }
        for (int v : Edge.NO_DIGIT) {
            edge.refused(22, Edge::five, OUTSIDE, "reading", 4, v);
            edge.refused(22, EdgesWhoAteTest::eight, OUTSIDE, "reading", 0, v);
        }
        edge.refused(22, EdgesWhoAteTest::eight, LoafGates.FULL, "reading", 0, 0);
        edge.refused(22, EdgesWhoAteTest::eight, LoafGates.FULL, "reading", 4, 9);
        edge.refused(22, LoafGates::new, UNKNOWN, "reading", 0, 0);
    }

    private static void readingsUpToEight() {
        LoafGates x = Check.of("w,0;p0000");
        for (int k = 0; k < 8; k++) {
            edge.same(22, "so many", x.many(4), k);
            edge.same(22, "its number", x.reading(0, k % 2 == 0 ? 9 : 0), k);
        }
        edge.same(22, "a ninth", x.reading(0, 0), LoafGates.FULL);
        edge.same(22, "eight", x.many(4), 8);
        x.back(1);
        edge.same(22, "the eighth anew", x.reading(0, 0), 7);
        edge.same(22, "full again", x.reading(0, 0), LoafGates.FULL);
        edge.same(22, "of the sixth", Check.of(Edge.SIX).reading(5, 9), 0);
    }

    // ---- promise 23

    private static void backRefused() {
        for (int k : new int[] {-1, 3, Edge.LEAST, Edge.MOST}) edge.refused(23, Edge::five, OUTSIDE, "back", k);
        edge.refused(23, EdgesWhoAteTest::eight, OUTSIDE, "back", 9);
        edge.refused(23, LoafGates::new, OUTSIDE, "back", 1);
        edge.refused(23, LoafGates::new, OUTSIDE, "back", -1);
        edge.same(23, "none of none, in no winter", new LoafGates().back(0), 0);
    }

    private static void backOfEachNumber() {
        for (int there = 0; there <= 8; there++) {
            for (int k = 0; k <= 9; k++) {
                LoafGates x = Check.of("w,0;p0000");
                for (int r = 0; r < there; r++) x.reading(0, 0);
                edge.same(23, k + " of " + there, x.back(k), k <= there ? there - k : OUTSIDE);
                edge.same(23, "left of " + there, x.many(4), k <= there ? there - k : there);
            }
        }
        LoafGates x = read("w,1;p1500;p1500", 0, 1, 0, 0);
        edge.same(23, "not both", x.shows(1), 0);
        x.back(1);
        edge.same(23, "the last is gone", x.shows(1), 63);
        x.back(1);
        edge.same(23, "the first is gone", x.shows(1), 1023);
    }

    // ---- promises 24 to 26

    private static void setsRefused() {
        for (int c : Edge.NO_COMER_OF_FIVE) {
            edge.refused(24, Edge::five, UNKNOWN, "kinds", c);
            edge.refused(25, Edge::five, UNKNOWN, "shows", c);
        }
        edge.refused(24, LoafGates::new, UNKNOWN, "kinds", 0);
        edge.refused(25, LoafGates::new, UNKNOWN, "shows", 0);
        edge.refused(26, LoafGates::new, STATE, "chalks");
        edge.refused(26, Edge::rows, STATE, "chalks");
    }

    private static void kinds() {
        String text = "w,3;p2500;p1300;p2301";
        edge.same(24, "no readings", Check.of(text).kinds(2), 7);
        edge.same(24, "the first alone", read(text, 2, 0).kinds(2), 1);
        edge.same(24, "the second alone", read(text, 2, 1).kinds(2), 2);
        edge.same(24, "the last alone", read(text, 2, 2).kinds(2), 4);
        edge.same(24, "none", read(text, 2, 3).kinds(2), 0);
        edge.same(24, "all but the last", read(text, 0, 2).kinds(2), 3);
        edge.same(24, "all but the first", read(text, 1, 0).kinds(2), 6);
        edge.same(24, "of the sixth", Check.of(Edge.SIX).kinds(5), 7);
        edge.same(24, "of a seventh", Check.of(Edge.SIX).kinds(6), UNKNOWN);
        LoafGates x = read(text, 2, 1);
        x.chalk(0);
        edge.same(24, "without chalk none is between", x.kinds(2), 0);
        x.chalk(9);
        edge.same(24, "with all chalk neither", x.kinds(2), 0);
        x.kinds(2);
        edge.same(24, "its kind stays", x.ofComer(2, 0), 0);
    }

    private static void shows() {
        String nine = "w,1;p1800;p1001";
        edge.same(25, "no readings", Check.of(nine).shows(1), 1023);
        edge.same(25, "9 alone", read(nine, 1, 1).shows(1), 512);
        edge.same(25, "all but 9", read(nine, 1, 0).shows(1), 511);
        String zero = "w,1;p1901;p1000";
        edge.same(25, "0 alone", read(zero, 0, 0).shows(0), 1);
        edge.same(25, "all but 0", read(zero, 0, 1).shows(0), 1022);
        edge.same(25, "none", read(nine, 1, 2).shows(1), 0);
        edge.same(25, "of the other", read(nine, 1, 1).shows(0), 0);
        edge.same(25, "of the other too", read(nine, 1, 0).shows(0), 1023);
        edge.same(25, "of the sixth", Check.of(Edge.SIX).shows(5), 1023);
        edge.same(25, "of a seventh", Check.of(Edge.SIX).shows(6), UNKNOWN);
        LoafGates x = read(zero, 0, 0);
        x.shows(0);
        edge.same(25, "its show stays", x.ofComer(0, 2), 9);
    }

    private static void chalks() {
        String zero = "w,1;p1000;c1001";
        edge.same(26, "no readings", Check.of(zero).chalks(), 1023);
        edge.same(26, "0 alone", read(zero, 0, 1).chalks(), 1);
        edge.same(26, "all but 0", read(zero, 1, 1).chalks(), 1022);
        String nine = "w,1;p1800;c1001";
        edge.same(26, "9 alone", read(nine, 1, 1).chalks(), 512);
        edge.same(26, "all but 9", read(nine, 0, 1).chalks(), 511);
        edge.same(26, "none", read(nine, 0, 1, 1, 1).chalks(), 0);
        edge.same(26, "what can't be", read(nine, 0, 9).chalks(), 0);
        LoafGates x = read(nine, 1, 1);
        x.chalk(9);
        x.chalks();
        edge.same(26, "chalk stays", x.many(6), 9);
    }

    /** Eight readings, all of which must be so: each of them alone may say no. */
    private static void setsOfMany() {
        for (int wrong = 0; wrong <= 8; wrong++) {
            LoafGates x = Check.of("w,3;p3000");
            for (int k = 0; k < 8; k++) x.reading(0, k == wrong ? 2 : 3);
            edge.same(24, "of eight not the one at " + wrong, x.kinds(0), wrong < 8 ? 0 : 7);
            edge.same(25, "of eight not the one at " + wrong, x.shows(0), wrong < 8 ? 0 : 1023);
            edge.same(26, "of eight not the one at " + wrong, x.chalks(), wrong < 8 ? 0 : 1023);
        }
        edge.same(26, "0 of one without hunger", read("w,9;p0000", 0, 0).chalks(), 1023);
        edge.same(26, "9 of one with all hunger", read("w,9;p9000", 0, 9).chalks(), 1023);
        edge.same(26, "8 of it", read("w,9;p9000", 0, 8).chalks(), 0);
    }

    /** What is asked behind changes, too, is told by how all is then. */
    private static void asAllIsNow() {
        LoafGates x = read("w,1;p1500;c1501", 0, 1);
        edge.same(24, "at first", x.kinds(1), 1);
        edge.same(25, "at first", x.shows(1), 31);
        edge.same(26, "at first", x.chalks(), 1);
        edge.same(27, "at first", x.odds(1, 0), 3);
        x.bake(0, 2);
        edge.same(24, "then", x.kinds(1), 7);
        x.bake(0, 0);
        edge.same(25, "without loaves", x.shows(1), 0);
        x.bake(0, 2);
        edge.same(26, "then", x.chalks(), 1023);
        x.bake(0, 0);
        edge.same(27, "without loaves", x.odds(1, 0), 0);
        edge.same(24, "without loaves", x.kinds(1), 0);
        x.bake(0, 2);
        edge.same(25, "then", x.shows(1), 1023);
        x.bake(0, 0);
        edge.same(26, "without loaves", x.chalks(), 0);
        x.bake(0, 2);
        edge.same(27, "then", x.odds(1, 0), 1);
    }

    // ---- promise 27

    private static void oddsRefused() {
        for (int c : Edge.NO_COMER_OF_FIVE) {
            edge.lost(27, Edge::five, 0, "odds", c, 0);
            edge.lost(27, Edge::five, 0, "odds", c, 2);
        }
        for (int which : new int[] {-1, 2, Edge.LEAST, Edge.MOST}) edge.lost(27, Edge::five, 0, "odds", 4, which);
        edge.lost(27, LoafGates::new, 0, "odds", 0, 0);
    }

    private static void share(String text, int c, int upper, int lower) {
        LoafGates x = Check.of(text);
        edge.same(27, text + " of " + c + ", upper", x.odds(c, 0), upper);
        edge.same(27, text + " of " + c + ", lower", x.odds(c, 1), lower);
        edge.same(27, "manner stays", x.many(5), 0);
        edge.same(27, "chalk stays", x.many(6), 1);
    }

    private static void odds() {
        share("w,0;p1000", 0, 0, 1);
        share("w,9;p0000", 0, 0, 1);
        share("w,1;p1000", 0, 1, 1);
        share("w,1;p9000", 0, 1, 1);
        share("w,1;p2800;c1001", 1, 1, 30);
        share("w,1;p2800;c1001", 0, 29, 30);
        share("w,1;p2501;c1000", 1, 1, 2);
        share("w,1;p2401;c1000", 1, 8, 15);
        share("w,1;p2401;c1000", 0, 7, 15);
        share("w,1;p1900;p2001", 1, 1, 3);
        share("w,1;p1900;p2001", 0, 2, 3);
        edge.same(27, "of the sixth", Check.of(Edge.SIX).odds(5, 0), 1);
    }
}
