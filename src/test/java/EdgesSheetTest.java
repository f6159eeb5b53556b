import java.util.function.Supplier;

/** Promises 28 to 38: what is first, last, too small, too large, empty, full, cut, wrapped or refused. */
public final class EdgesSheetTest {
    private static final Edge edge = new Edge(28, 38);
    private static final int UNKNOWN = LoafGates.UNKNOWN, OUTSIDE = LoafGates.OUTSIDE;
    private static final int NULL = -11, CAST = -12, INDEX = -13, SIZE = -14;
    // Lanes and lengths of the rows that Edge.five has on sheets 0 to 2; 3 has nothing.
    private static final int[] LANE_OF = {2, 0, 1}, LENGTH_OF = {37, 5, 4};

    public static void main(String[] args) {
        sheetRefused();
        rowsOfEachLength();
        rowsAnew();
        losing();
        putRefused();
        cutToLane();
        cellRefused();
        firstAndLastCell();
        copyRefused();
        copyIndex();
        copiesAtTheirBounds();
        copiesOfThemselves();
        told();
        greeted();
        asOneOfAKind();
        traceThatWraps();
        faultBehindEachCall();
        faultLeftByOthers();
        manyOf();
        edge.end();
    }

    // ---- promise 28

    private static void sheetRefused() {
        for (int k : Edge.NO_SHEET) {
            edge.refused(28, Edge::five, UNKNOWN, "sheet", k, 0, 0);
            edge.refused(28, Edge::five, UNKNOWN, "sheet", k, 3, 61);
            edge.refused(28, Edge::five, UNKNOWN, "sheet", k, 0, -1);
        }
        for (int lane : Edge.NO_LANE) {
            edge.refused(28, Edge::five, OUTSIDE, "sheet", 1, lane, 0);
            edge.refused(28, Edge::five, OUTSIDE, "sheet", 1, lane, 61);
            edge.refused(28, Edge::five, OUTSIDE, "sheet", 3, lane, -1);
        }
        for (int lane = 0; lane < 3; lane++) {
            for (int n : new int[] {61, 62, Edge.MOST}) edge.refused(28, Edge::five, OUTSIDE, "sheet", 1, lane, n);
            for (int n : new int[] {-1, Edge.LEAST}) edge.refused(28, Edge::five, SIZE, "sheet", 1, lane, n);
            edge.refused(28, Edge::five, SIZE, "sheet", 3, lane, -1);
        }
    }

    private static void rowsOfEachLength() {
        for (int k = 0; k < 4; k++) {
            for (int lane = 0; lane < 3; lane++) {
                for (int n : new int[] {0, 1, 59, 60}) rowOf(k, lane, n);
            }
        }
    }

    private static void rowOf(int k, int lane, int n) {
        LoafGates x = new LoafGates();
        String words = "sheet " + k + " lane " + lane + " of " + n;
        edge.same(28, words, x.sheet(k, lane, n), 1);
        for (int i = 0; i < n; i++) edge.same(28, words + " at " + i, x.cell(k, i, lane), 0);
        edge.same(28, words + " has no more", x.cell(k, n, lane), LoafGates.LOST);
        edge.same(28, words + " ends there", x.fault(), 3);
        edge.same(28, words + " is no other lane's", x.cell(k, 0, (lane + 1) % 3), LoafGates.LOST);
        edge.same(28, words + " and that is a cast", x.fault(), 2);
        for (int other = 0; other < 4; other++) edge.same(28, "nothing but " + k, x.lose(other), other == k ? 1 : 0);
    }

    private static void rowsAnew() {
        LoafGates x = new LoafGates();
        x.sheet(2, 2, 60);
        for (int i = 0; i < 60; i++) x.put(2, i, -1);
        x.sheet(2, 2, 1);
        edge.same(28, "one cell, 0 again", x.cell(2, 0, 2), 0);
        edge.same(28, "no second", x.put(2, 1, 1), INDEX);
        x.sheet(2, 2, 60);
        for (int i = 0; i < 60; i++) edge.same(28, "0 again at " + i, x.cell(2, i, 2), 0);
        x.put(2, 0, 5);
        x.sheet(2, 2, 61);
        edge.same(28, "kept, if refused", x.cell(2, 0, 2), 5);
        x.sheet(2, 0, 60);
        edge.same(28, "0 in another lane", x.cell(2, 0, 0), 0);
        edge.same(28, "no more of the first", x.cell(2, 0, 2), LoafGates.LOST);
    }

    // ---- promise 29

    private static void losing() {
        for (int k : Edge.NO_SHEET) edge.refused(29, Edge::five, UNKNOWN, "lose", k);
        for (int k = 0; k < 4; k++) {
            LoafGates x = new LoafGates();
            edge.same(29, "had nothing", x.lose(k), 0);
            for (int n : new int[] {0, 60}) {
                x.sheet(k, 1, n);
                edge.same(29, "had a row of " + n, x.lose(k), 1);
                edge.same(29, "has nothing", x.lose(k), 0);
                edge.same(29, "not even a cast", x.winter(k, 2, 0, 0), NULL);
            }
        }
        LoafGates x = Edge.five();
        x.lose(0);
        edge.same(29, "the winter stays", x.many(1), 5);
        edge.same(29, "another row stays", x.cell(1, 4, 0), 5);
        x.lose(1);
        x.sheet(1, 0, 5);
        edge.same(29, "a lost row does not come back", x.cell(1, 4, 0), 0);
    }

    // ---- promise 30

    private static void putRefused() {
        for (int k : Edge.NO_SHEET) {
            edge.refused(30, Edge::five, UNKNOWN, "put", k, 0, 1);
            edge.refused(30, Edge::five, UNKNOWN, "put", k, -1, 1);
        }
        for (int i : new int[] {-1, 0, 60, Edge.LEAST, Edge.MOST}) edge.refused(30, Edge::five, NULL, "put", 3, i, 1);
        for (int k = 0; k < 3; k++) {
            int n = LENGTH_OF[k];
            for (int i : new int[] {-1, n, n + 1, 60, Edge.LEAST, Edge.MOST}) {
                edge.refused(30, Edge::five, INDEX, "put", k, i, 1);
            }
        }
        Supplier<LoafGates> empty = () -> {
            LoafGates x = new LoafGates();
            x.sheet(0, 0, 0);
            return x;
        };
        edge.refused(30, empty, INDEX, "put", 0, 0, 1);
        LoafGates x = new LoafGates();
        x.sheet(0, 0, 60);
        edge.same(30, "the first", x.put(0, 0, 1), 1);
        edge.same(30, "the last", x.put(0, 59, 2), 1);
        edge.same(30, "beyond", x.put(0, 60, 3), INDEX);
        edge.same(30, "the first is", x.cell(0, 0, 0), 1);
        edge.same(30, "the last is", x.cell(0, 59, 0), 2);
        edge.same(30, "no other", x.cell(0, 58, 0), 0);
    }

    private static void cut(int v, long asByte, long asShort) {
        long[] due = {asByte, asShort, v};
        for (int lane = 0; lane < 3; lane++) {
            LoafGates x = new LoafGates();
            x.sheet(3, lane, 1);
            edge.same(30, "put " + v, x.put(3, 0, v), 1);
            edge.same(30, v + " cut to lane " + lane, x.cell(3, 0, lane), due[lane]);
        }
    }

    private static void cutToLane() {
        cut(0, 0, 0);
        cut(-1, -1, -1);
        cut(127, 127, 127);
        cut(128, -128, 128);
        cut(-128, -128, -128);
        cut(-129, 127, -129);
        cut(255, -1, 255);
        cut(256, 0, 256);
        cut(-256, 0, -256);
        cut(32767, -1, 32767);
        cut(32768, 0, -32768);
        cut(-32768, 0, -32768);
        cut(-32769, -1, 32767);
        cut(65535, -1, -1);
        cut(65536, 0, 0);
        cut(Edge.MOST, -1, -1);
        cut(Edge.LEAST, 0, 0);
    }

    // ---- promise 31

    private static void cellRefused() {
        for (int k : Edge.NO_SHEET) {
            edge.lost(31, Edge::five, 0, "cell", k, 0, 0);
            edge.lost(31, Edge::five, 0, "cell", k, -1, 3);
        }
        for (int lane : Edge.NO_LANE) {
            edge.lost(31, Edge::five, 0, "cell", 0, -1, lane);
            edge.lost(31, Edge::five, 0, "cell", 3, -1, lane);
        }
        for (int lane = 0; lane < 3; lane++) {
            edge.lost(31, Edge::five, 1, "cell", 3, 0, lane);
            edge.lost(31, Edge::five, 1, "cell", 3, -1, lane);
        }
        for (int k = 0; k < 3; k++) {
            for (int i : new int[] {-1, LENGTH_OF[k], 60, Edge.LEAST, Edge.MOST}) {
                for (int lane = 0; lane < 3; lane++) {
                    edge.lost(31, Edge::five, lane == LANE_OF[k] ? 3 : 2, "cell", k, i, lane);
                }
            }
            edge.lost(31, Edge::five, 2, "cell", k, 0, (LANE_OF[k] + 1) % 3);
        }
    }

    private static void firstAndLastCell() {
        LoafGates x = Edge.five();
        edge.same(31, "first of ints", x.cell(0, 0, 2), 'w');
        edge.same(31, "last of ints", x.cell(0, 36, 2), '4');
        edge.same(31, "first of bytes", x.cell(1, 0, 0), 1);
        edge.same(31, "last of bytes", x.cell(1, 4, 0), 5);
        edge.same(31, "first of shorts", x.cell(2, 0, 1), 300);
        edge.same(31, "below 0", x.cell(2, 2, 1), -300);
        edge.same(31, "no fault", x.fault(), 0);
    }

    // ---- promise 32

    private static void copyRefused() {
        for (int k : Edge.NO_SHEET) {
            edge.refused(32, Edge::five, UNKNOWN, "copy", k, -1, 3, -1, -1);
            edge.refused(32, Edge::five, UNKNOWN, "copy", 3, -1, k, -1, -1);
            edge.refused(32, Edge::five, UNKNOWN, "copy", k, 0, k, 0, 0);
        }
        for (int k = 0; k < 4; k++) {
            edge.refused(32, Edge::five, NULL, "copy", 3, -1, k, -1, -1);
            edge.refused(32, Edge::five, NULL, "copy", k, -1, 3, -1, -1);
            edge.refused(32, Edge::five, NULL, "copy", k, 0, 3, 0, 0);
        }
        for (int k = 0; k < 3; k++) {
            for (int other = 0; other < 3; other++) {
                edge.refused(32, Edge::five, k == other ? INDEX : CAST, "copy", k, -1, other, -1, -1);
                if (k != other) edge.refused(32, Edge::five, CAST, "copy", k, 0, other, 0, 0);
            }
        }
    }

    /** Three bytes on sheet 0, five on sheet 1. */
    private static LoafGates threeAndFive() {
        LoafGates x = new LoafGates();
        Check.write(x, 0, 0, 1, 2, 3);
        Check.write(x, 1, 0, 11, 12, 13, 14, 15);
        return x;
    }

    private static void copyIndex() {
        int[][] beyond = {{-1, 0, 0}, {4, 0, 0}, {0, -1, 0}, {0, 6, 0}, {0, 0, -1}, {3, 5, -1}, {3, 0, 1}, {0, 5, 1},
            {0, 0, 4}, {1, 0, 3}, {0, 3, 3}, {Edge.LEAST, 0, 0}, {0, Edge.LEAST, 0}, {0, 0, Edge.LEAST},
            {Edge.MOST, 0, 0}, {0, Edge.MOST, 0}, {0, 0, Edge.MOST}, {1, 1, Edge.MOST}, {Edge.MOST, 0, 1},
            {0, Edge.MOST, 1}, {Edge.MOST, Edge.MOST, Edge.MOST}, {-1, -1, -1}};
        for (int[] b : beyond) {
            edge.refused(32, EdgesSheetTest::threeAndFive, INDEX, "copy", 0, b[0], 1, b[1], b[2]);
            edge.refused(32, EdgesSheetTest::threeAndFive, INDEX, "copy", 1, b[1], 0, b[0], b[2]);
        }
        int[][] own = {{-1, 0, 0}, {0, -1, 0}, {4, 0, 0}, {0, 4, 0}, {1, 0, 3}, {0, 1, 3}, {0, 0, 4}, {0, 0, -1}};
        for (int[] b : own) edge.refused(32, EdgesSheetTest::threeAndFive, INDEX, "copy", 0, b[0], 0, b[1], b[2]);
    }

    private static void row(LoafGates x, int k, int lane, int... due) {
        for (int i = 0; i < due.length; i++) edge.same(32, "cell " + i + " of " + k, x.cell(k, i, lane), due[i]);
    }

    private static void copiesAtTheirBounds() {
        LoafGates x = threeAndFive();
        edge.same(32, "none at the ends", x.copy(0, 3, 1, 5, 0), 0);
        edge.same(32, "none at the fronts", x.copy(0, 0, 1, 0, 0), 0);
        row(x, 1, 0, 11, 12, 13, 14, 15);
        edge.same(32, "the last to the last", x.copy(0, 2, 1, 4, 1), 1);
        row(x, 1, 0, 11, 12, 13, 14, 3);
        edge.same(32, "all to the end", x.copy(0, 0, 1, 2, 3), 3);
        row(x, 1, 0, 11, 12, 1, 2, 3);
        row(x, 0, 0, 1, 2, 3);
        LoafGates y = new LoafGates();
        y.sheet(0, 2, 60);
        y.sheet(3, 2, 60);
        for (int i = 0; i < 60; i++) y.put(0, i, Edge.LEAST + i);
        edge.same(32, "sixty", y.copy(0, 0, 3, 0, 60), 60);
        for (int i = 0; i < 60; i++) edge.same(32, "of sixty " + i, y.cell(3, i, 2), (long) Edge.LEAST + i);
        y.put(0, 0, 1);
        edge.same(32, "the copy is its own", y.cell(3, 0, 2), Edge.LEAST);
        y.sheet(1, 1, 0);
        y.sheet(2, 1, 0);
        edge.same(32, "none of none", y.copy(1, 0, 2, 0, 0), 0);
        edge.same(32, "one of none", y.copy(1, 0, 2, 0, 1), INDEX);
    }

    private static void copiesOfThemselves() {
        int[] cells = {1, 2, 3, 4, 5, 6};
        for (int lane = 0; lane < 3; lane++) {
            for (int i = 0; i <= 6; i++) {
                for (int j = 0; j <= 6; j++) {
                    int n = 6 - Math.max(i, j);
                    LoafGates x = new LoafGates();
                    Check.write(x, 2, lane, cells);
                    edge.same(32, "from " + i + " to " + j, x.copy(2, i, 2, j, n), n);
                    int[] due = cells.clone();
                    for (int p = 0; p < n; p++) due[j + p] = cells[i + p];
                    row(x, 2, lane, due);
                }
            }
        }
    }

    // ---- promises 33 and 34

    private static void told() {
        for (int c : Edge.NO_COMER_OF_FIVE) edge.refused(33, Edge::five, UNKNOWN, "tell", c);
        edge.refused(33, LoafGates::new, UNKNOWN, "tell", 0);
        String[] texts = {"w,0;p9000;c9000;g9000", "w,0;p0900;c0900;g0900"};
        int[][] due = {{0, 100, 100}, {9, 109, 118}};
        int[] traces = {1, 2 * 31 + 1, ((3 * 31 + 2) * 31 + 1) * 31 + 1};
        for (int k = 0; k < 2; k++) {
            for (int c = 0; c < 3; c++) {
                LoafGates x = Check.of(texts[k]);
                x.chalk(9);
                edge.same(33, texts[k] + " of " + c, x.tell(c), due[k][c]);
                edge.same(36, "behind tell of " + c, x.trace(), traces[c]);
            }
        }
        edge.same(33, "of the sixth", Check.of(Edge.SIX).tell(5), 100);
        edge.same(33, "of a seventh", Check.of(Edge.SIX).tell(6), UNKNOWN);
    }

    private static void greeted() {
        for (int c : Edge.NO_COMER_OF_FIVE) edge.refused(34, Edge::five, UNKNOWN, "greet", c);
        edge.refused(34, LoafGates::new, UNKNOWN, "greet", 0);
        LoafGates x = Check.of("w,0;p0900;p9000;c0900;c9000;g0900;g9000");
        int[] due = {0, 9, 0, 9, 60, 60};
        int[] leaves = {4, 4, 4, 4, 5, 5};
        int trace = 0;
        for (int c = 0; c < 6; c++) {
            edge.same(34, "of " + c, x.greet(c), due[c]);
            trace = 31 * trace + leaves[c];
            edge.same(36, "behind greet of " + c, x.trace(), trace);
        }
    }

    // ---- promise 35

    private static void asOneOfAKind() {
        for (int c : Edge.NO_COMER_OF_FIVE) {
            edge.refused(35, Edge::five, UNKNOWN, "as", c, 0);
            edge.refused(35, Edge::five, UNKNOWN, "as", c, 3);
        }
        edge.refused(35, LoafGates::new, UNKNOWN, "as", 0, 0);
        for (int kind : new int[] {-1, 3, Edge.LEAST, Edge.MOST}) {
            for (int c = 0; c < 5; c++) edge.refused(35, Edge::five, OUTSIDE, "as", c, kind);
        }
        edge.refused(35, Edge::five, CAST, "as", 0, 1);
        edge.refused(35, Edge::five, CAST, "as", 0, 2);
        edge.refused(35, Edge::five, CAST, "as", 1, 2);
        int[][] is = {{0, 0}, {1, 0}, {1, 1}, {2, 0}, {2, 1}, {2, 2}};
        LoafGates x = Edge.five();
        for (int[] pair : is) edge.same(35, pair[0] + " as " + pair[1], x.as(pair[0], pair[1]), 1);
    }

    // ---- promise 36

    private static void traceThatWraps() {
        LoafGates x = Check.of("w,0;p0000");
        edge.same(36, "at first", x.trace(), 0);
        int[] due = {4, 128, 3972, 123136, 3817220, 118333824, -626618748, 2049655296};
        for (int v : due) {
            x.greet(0);
            edge.same(36, "greeted", x.trace(), v);
            edge.same(36, "asked again", x.trace(), v);
        }
        x.tell(1);
        x.greet(-1);
        edge.same(36, "who is not there leaves nothing", x.trace(), 2049655296);
        Check.taken(x, "w,1;p1000");
        edge.same(36, "a text leaves nothing", x.trace(), 2049655296);
    }

    // ---- promise 37

    /** On Edge.five: a call, and the fault behind it. */
    private static void faultBehind(int fault, String name, int... a) {
        for (int before = 1; before <= 4; before++) {
            LoafGates x = Edge.five();
            comeTo(x, before);
            edge.same(37, "fault " + before, x.fault(), before);
            new Calls(x).answer(name, a);
            edge.same(37, "fault behind " + name, x.fault(), fault);
            edge.same(37, "asked again behind " + name, x.fault(), fault);
        }
    }

    private static void comeTo(LoafGates x, int fault) {
        if (fault == 1) x.put(3, 0, 0);
        if (fault == 2) x.as(0, 2);
        if (fault == 3) x.put(0, -1, 0);
        if (fault == 4) x.sheet(3, 0, -1);
    }

    private static void faultBehindEachCall() {
        edge.same(37, "ahead of any", new LoafGates().fault(), 0);
        faultBehind(0, "winter", 0, 2, 0, 37);
        faultBehind(0, "winter", 0, 2, 0, 36);
        faultBehind(0, "winter", 4, 2, 0, 37);
        faultBehind(0, "winter", 0, 3, 0, 37);
        faultBehind(1, "winter", 3, 0, 0, 0);
        faultBehind(2, "winter", 0, 1, 0, 0);
        faultBehind(3, "winter", 0, 2, 0, 38);
        faultBehind(4, "winter", 0, 2, 0, -1);
        faultBehind(0, "day", 1, 0, 0, 0, 0);
        faultBehind(0, "day", 1, 0, 1, 1, 1);
        faultBehind(0, "day", 1, 0, 3, 1, 0);
        faultBehind(0, "day", 0, 2, 0, 1, 0);
        faultBehind(0, "day", 1, 0, 0, 21, 0);
        faultBehind(1, "day", 3, 0, 0, 0, 0);
        faultBehind(2, "day", 1, 1, 0, 0, 0);
        faultBehind(3, "day", 1, 0, 0, 3, 0);
        faultBehind(0, "sheet", 0, 0, 0);
        faultBehind(0, "sheet", 0, 0, 61);
        faultBehind(4, "sheet", 0, 0, -1);
        faultBehind(0, "put", 0, 0, 0);
        faultBehind(0, "put", 4, 0, 0);
        faultBehind(1, "put", 3, 0, 0);
        faultBehind(3, "put", 0, 37, 0);
        faultBehind(0, "cell", 0, 0, 2);
        faultBehind(0, "cell", 0, 0, 3);
        faultBehind(1, "cell", 3, 0, 2);
        faultBehind(2, "cell", 0, 0, 1);
        faultBehind(3, "cell", 0, 37, 2);
        faultBehind(0, "copy", 0, 0, 0, 1, 9);
        faultBehind(0, "copy", 0, 0, 4, 1, 9);
        faultBehind(1, "copy", 0, 0, 3, 0, 0);
        faultBehind(2, "copy", 0, 0, 1, 0, 0);
        faultBehind(3, "copy", 0, 0, 0, 1, 37);
        faultBehind(0, "as", 0, 0);
        faultBehind(0, "as", 0, 3);
        faultBehind(2, "as", 0, 1);
    }

    private static void faultLeftByOthers() {
        for (String name : Calls.NAMES) {
            if (Edge.NAMING_FAULTS.contains(name)) continue;
            for (int before = 1; before <= 4; before++) {
                for (int v : new int[] {1, -5, 100}) {
                    LoafGates x = Edge.five();
                    comeTo(x, before);
                    new Calls(x).answer(name, v, v + 1, v, v, v);
                    edge.same(37, name + " of " + v + " leaves it", x.fault(), before);
                }
            }
        }
    }

    // ---- promise 38

    private static void manyOf() {
        for (int what : new int[] {-1, 7, Edge.LEAST, Edge.MOST}) {
            edge.refused(38, Edge::five, OUTSIDE, "many", what);
            edge.refused(38, LoafGates::new, OUTSIDE, "many", what);
        }
        LoafGates none = Edge.rows();
        none.winter(0, 2, 0, 3);
        for (int what = 0; what <= 6; what++) edge.same(38, "no winter, " + what, none.many(what), 0);
        LoafGates least = Check.of("w,0;p0000");
        int[] fewest = {1, 1, 0, 0, 0, 0, 1};
        for (int what = 0; what <= 6; what++) edge.same(38, "the least, " + what, least.many(what), fewest[what]);
        LoafGates most = Check.of("w,9,9,9;p9000;p9010;p9020;p9000;p9010;p9020");
        for (int k = 0; k < 8; k++) most.reading(0, 0);
        most.manner(2);
        most.chalk(9);
        int[] greatest = {3, 6, 3, 27, 8, 2, 9};
        for (int what = 0; what <= 6; what++) edge.same(38, "the most, " + what, most.many(what), greatest[what]);
        for (int g = 0; g < 3; g++) most.bake(g, 0);
        edge.same(38, "all without", most.many(2), 6);
        edge.same(38, "no loaves", most.many(3), 0);
    }
}
