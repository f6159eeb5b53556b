import java.util.function.Supplier;

/** Promises 1 to 9: what is first, last, too small, too large, empty, full or refused. */
public final class EdgesWinterTest {
    private static final Edge edge = new Edge(1, 9);
    private static final int UNKNOWN = LoafGates.UNKNOWN, OUTSIDE = LoafGates.OUTSIDE, STATE = LoafGates.STATE;
    private static final int NULL = -11, CAST = -12, INDEX = -13, SIZE = -14;
    private static final String LONGEST = "w,9,9,9;p9909;c9919;g9929;p9909;c9919;g9929";
    private static final int[] NO_GATE = {-1, 3, Edge.LEAST, Edge.MOST};

    public static void main(String[] args) {
        newObject();
        howManyGatesAndComers();
        gateThatThereIs();
        textsThatEndTooSoon();
        codesBeside();
        codesBehind();
        firstAndLastDigits();
        numbersBeyondCodes();
        textsInARow();
        winterRefused();
        textRefused();
        allAnew();
        comerRefused();
        looks();
        eatsAndWithout();
        crowdsOut();
        places();
        gateRefused();
        gates();
        shown();
        led();
        baked();
        mannerAndChalk();
        edge.end();
    }

    // ---- promise 1

    private static void newObject() {
        LoafGates x = new LoafGates();
        for (int what = 0; what <= 6; what++) edge.same(1, "many " + what, x.many(what), 0);
        for (int c = 0; c < 6; c++) edge.same(1, "no comer " + c, x.ofComer(c, 0), UNKNOWN);
        for (int g = 0; g < 3; g++) edge.same(1, "no gate " + g, x.ofGate(g, 0), UNKNOWN);
        edge.same(1, "fault ahead of any", x.fault(), 0);
        edge.same(1, "trace", x.trace(), 0);
        edge.same(1, "no readings to take back", x.back(0), 0);
        for (int k = 0; k < 4; k++) {
            edge.same(1, "nothing to put to", x.put(k, 0, 0), NULL);
            for (int lane = 0; lane < 3; lane++) {
                edge.same(1, "nothing to take", x.cell(k, 0, lane), LoafGates.LOST);
                edge.same(1, "it is no cast", x.fault(), 1);
            }
            edge.same(1, "nothing to lose", x.lose(k), 0);
        }
        LoafGates other = Check.of(Edge.FIVE);
        edge.same(1, "of another object's winter nothing", new LoafGates().many(1) + other.many(1), 5);
    }

    // ---- promise 2

    private static void text(String text, int due) {
        edge.same(2, text, Check.taken(new LoafGates(), text), due);
    }

    private static String gatesAndComers(int gates, int comers) {
        return "w" + ",3".repeat(gates) + ";p1101".repeat(comers);
    }

    private static void howManyGatesAndComers() {
        for (int gates = 1; gates <= 3; gates++) {
            for (int comers = 1; comers <= 6; comers++) {
                LoafGates x = new LoafGates();
                edge.same(2, "taken", Check.taken(x, gatesAndComers(gates, comers)), comers);
                edge.same(2, "gates", x.many(0), gates);
            }
            text(gatesAndComers(gates, 0), -100 - (1 + 2 * gates));
            text(gatesAndComers(gates, 7), -100 - (1 + 2 * gates + 36));
            text(gatesAndComers(gates, 6) + ";", -100 - (1 + 2 * gates + 36));
        }
        text(gatesAndComers(0, 1), -101);
        text(gatesAndComers(0, 0), -101);
        text(gatesAndComers(4, 1), -107);
        text("w,3,3,3,", -107);
        text(gatesAndComers(4, 7), -107);
    }

    private static void gateThatThereIs() {
        for (int gates = 1; gates <= 3; gates++) {
            int place = 1 + 2 * gates + 4;
            for (int g = 0; g <= 9; g++) {
                String text = gatesAndComers(gates, 0) + ";p11" + g + "1";
                text(text, g < gates ? 1 : -100 - place);
                text(gatesAndComers(gates, 1) + text.substring(1 + 2 * gates), g < gates ? 2 : -100 - place - 6);
            }
        }
    }

    private static void textsThatEndTooSoon() {
        LoafGates x = new LoafGates();
        Check.write(x, 0, 2, Check.codes(LONGEST));
        for (int n = 0; n <= LONGEST.length(); n++) {
            boolean whole = n >= 13 && (n - 7) % 6 == 0;
            edge.same(2, "of the longest " + n, x.winter(0, 2, 0, n), whole ? (n - 7) / 6 : -100 - n);
        }
        edge.same(2, "an empty row", Check.taken(new LoafGates(), ""), -100);
    }

    private static void codesBeside() {
        String text = "w,5;p3407;c1205;g1102";
        for (int p = 0; p < text.length(); p++) {
            char due = text.charAt(p);
            boolean digit = due >= '0' && due <= '9';
            int[] beside = digit ? new int[] {47, 58, 0, -due} : new int[] {due - 1, due + 1, due ^ 32, -due, 48};
            for (int code : beside) codeAt(text, p, code, -100 - p);
        }
        codeAt(text, 3, ',', -104);
        codeAt(text, 9, ',', -109);
        codeAt(text, 4, 'w', -104);
    }

    private static void codeAt(String text, int p, int code, int due) {
        LoafGates x = new LoafGates();
        Check.write(x, 0, 2, Check.codes(text));
        x.put(0, p, code);
        edge.same(2, "code " + code + " at " + p, x.winter(0, 2, 0, text.length()), due);
        edge.same(2, "no fault of the machine's", x.fault(), 0);
    }

    private static void codesBehind() {
        for (int code = 0; code < 128; code++) {
            String behindGate = "w,5" + (char) code;
            text(behindGate, code == ',' || code == ';' ? -104 : -103);
            String behindThree = "w,5,5,5" + (char) code;
            text(behindThree, code == ';' ? -108 : -107);
            String behindComer = "w,5;p3407" + (char) code;
            text(behindComer, code == ';' ? -110 : -109);
            String kind = "w,5;" + (char) code;
            text(kind, code == 'p' || code == 'c' || code == 'g' ? -105 : -104);
            String loaves = "w," + (char) code;
            text(loaves, code >= '0' && code <= '9' ? -103 : -102);
        }
    }

    private static void firstAndLastDigits() {
        String[] texts = {"w,0;p0000", "w,9;p9909"};
        for (int k = 0; k < 2; k++) {
            LoafGates x = new LoafGates();
            edge.same(2, texts[k], Check.taken(x, texts[k]), 1);
            edge.same(2, "loaves", x.ofGate(0, 0), 9 * k);
            edge.same(2, "hunger", x.ofComer(0, 1), 9 * k);
            edge.same(2, "show", x.ofComer(0, 2), 9 * k);
            edge.same(2, "gate", x.ofComer(0, 3), 0);
            edge.same(2, "hour", x.ofComer(0, 4), 9 * k);
        }
        LoafGates x = Check.of(LONGEST);
        for (int c = 0; c < 6; c++) {
            edge.same(2, "kind of " + c, x.ofComer(c, 0), c % 3);
            edge.same(2, "gate of " + c, x.ofComer(c, 3), c % 3);
        }
    }

    private static void numbersBeyondCodes() {
        int[] cells = Check.codes("w,5;p3407");
        for (int p = 0; p < cells.length; p++) {
            for (int lane = 0; lane < 3; lane++) {
                beyond(cells, p, lane, 256, lane == 0);
                beyond(cells, p, lane, 1 << 16, lane < 2);
                beyond(cells, p, lane, Edge.LEAST, lane < 2);
            }
        }
    }

    private static void beyond(int[] cells, int p, int lane, int more, boolean cut) {
        LoafGates x = new LoafGates();
        Check.write(x, 3, lane, cells);
        x.put(3, p, cells[p] + more);
        int due = cut ? 1 : -100 - p;
        edge.same(2, "lane " + lane + ", " + more + " more at " + p, x.winter(3, lane, 0, cells.length), due);
    }

    private static void textsInARow() {
        LoafGates x = new LoafGates();
        int[] codes = Check.codes("w,5;p3407");
        int[] row = new int[60];
        System.arraycopy(codes, 0, row, 0, 9);
        System.arraycopy(codes, 0, row, 51, 9);
        Check.write(x, 0, 1, row);
        edge.same(2, "at the front", x.winter(0, 1, 0, 9), 1);
        edge.same(2, "at the end", x.winter(0, 1, 51, 9), 1);
        edge.same(2, "one less", x.winter(0, 1, 51, 8), -108);
        edge.same(2, "one more at the front", x.winter(0, 1, 0, 10), -109);
        edge.same(2, "one more at the end", x.winter(0, 1, 51, 10), INDEX);
        edge.same(2, "the place is told from i on", x.winter(0, 1, 50, 10), -100);
        edge.same(2, "all of the row", x.winter(0, 1, 0, 60), -109);
        for (int i = 0; i <= 60; i++) edge.same(2, "no cells from " + i, x.winter(0, 1, i, 0), -100);
        edge.same(2, "no cells from 61", x.winter(0, 1, 61, 0), INDEX);
        x.sheet(0, 1, 0);
        edge.same(2, "no cells of none", x.winter(0, 1, 0, 0), -100);
        edge.same(2, "no cells of none from 1", x.winter(0, 1, 1, 0), INDEX);
        edge.same(2, "no cells of none from -1", x.winter(0, 1, -1, 0), INDEX);
        edge.same(2, "one cell of none", x.winter(0, 1, 0, 1), INDEX);
    }

    private static void winterRefused() {
        Supplier<LoafGates> five = Edge::five;
        for (int k : Edge.NO_SHEET) edge.refused(2, five, UNKNOWN, "winter", k, 3, -1, -1);
        for (int lane : Edge.NO_LANE) {
            edge.refused(2, five, OUTSIDE, "winter", 0, lane, -1, -1);
            edge.refused(2, five, OUTSIDE, "winter", 3, lane, -1, -1);
        }
        int[] laneOf = {2, 0, 1};
        for (int k = 0; k < 3; k++) {
            for (int lane = 0; lane < 3; lane++) {
                edge.refused(2, five, lane == laneOf[k] ? SIZE : CAST, "winter", k, lane, -1, -1);
            }
            edge.refused(2, five, NULL, "winter", 3, k, -1, -1);
        }
        edge.refused(2, five, SIZE, "winter", 0, 2, 99, Edge.LEAST);
        int[][] beyond = {{-1, 0}, {-1, 1}, {38, 0}, {37, 1}, {0, 38}, {1, 37}, {1, Edge.MOST}, {Edge.MOST, 1},
            {Edge.MOST, Edge.MOST}, {Edge.LEAST, 0}, {Edge.LEAST, Edge.MOST}};
        for (int[] b : beyond) edge.refused(2, five, INDEX, "winter", 0, 2, b[0], b[1]);
    }

    private static void textRefused() {
        edge.refused(2, Edge::five, -100, "winter", 0, 2, 37, 0);
        edge.refused(2, Edge::five, -100, "winter", 0, 2, 1, 36);
        edge.refused(2, Edge::five, -136, "winter", 0, 2, 0, 36);
        edge.refused(2, Edge::rows, -100, "winter", 1, 0, 0, 5);
    }

    private static void allAnew() {
        LoafGates x = Edge.five();
        x.needs(0);
        edge.same(2, "again", x.winter(0, 2, 0, 37), 5);
        edge.same(2, "manner", x.many(5), 0);
        edge.same(2, "chalk", x.many(6), 1);
        edge.same(2, "readings", x.many(4), 0);
        edge.same(2, "a first reading", x.reading(0, 0), 0);
        edge.same(2, "who knew", x.far(0, 1), LoafGates.NONE);
        edge.same(2, "show", x.ofComer(1, 2), 4);
        edge.same(2, "gate", x.ofComer(3, 3), 1);
        edge.same(2, "loaves", x.ofGate(2, 0), 0);
        edge.same(2, "the sheet stays", x.cell(0, 0, 2), 'w');
        Check.taken(x, "w,1;p1100");
        edge.same(2, "no second gate", x.ofGate(1, 0), UNKNOWN);
        edge.same(2, "no second comer", x.ofComer(1, 0), UNKNOWN);
    }

    // ---- promise 3

    private static void comerRefused() {
        for (int c : Edge.NO_COMER_OF_FIVE) {
            edge.refused(3, Edge::five, UNKNOWN, "ofComer", c, 0);
            edge.refused(3, Edge::five, UNKNOWN, "ofComer", c, 10);
        }
        for (int what : Edge.NO_DIGIT) {
            for (int c = 0; c < 5; c++) edge.refused(3, Edge::five, OUTSIDE, "ofComer", c, what);
        }
        edge.refused(3, LoafGates::new, UNKNOWN, "ofComer", 0, 0);
        edge.same(3, "the sixth", Check.of(Edge.SIX).ofComer(5, 0), 2);
        edge.same(3, "a seventh", Check.of(Edge.SIX).ofComer(6, 0), UNKNOWN);
    }

    private static void looks() {
        LoafGates x = Check.of("w,0;p0000;c0000;g0000;p0900;c0900;g0900");
        int[][] due = {{0, 0, 0, 0, 9, 9, 18}, {9, 0, 9, 9, 9, 18, 27}, {1, 0, 1, 1, 9, 10, 19}};
        for (int[] row : due) {
            x.chalk(row[0]);
            for (int c = 0; c < 6; c++) edge.same(3, "look of " + c + " by " + row[0], x.ofComer(c, 5), row[c + 1]);
        }
    }

    private static void eating(String text, int... due) {
        LoafGates x = Check.of(text);
        for (int c = 0; c < due.length; c++) edge.same(3, text + " of " + c, x.ofComer(c, 6), due[c]);
        for (int c = 0; c < due.length; c++) {
            int without = due[c] == 0 && x.ofComer(c, 1) > 0 ? 1 : 0;
            edge.same(3, "without in " + text + " of " + c, x.ofComer(c, 7), without);
        }
    }

    private static void eatsAndWithout() {
        eating("w,4;p3000", 3);
        eating("w,3;p3000", 3);
        eating("w,2;p3000", 2);
        eating("w,1;p3000", 1);
        eating("w,0;p3000", 0);
        eating("w,0;p0000", 0);
        eating("w,9;p9000", 9);
        eating("w,9;p0000", 0);
        eating("w,4;p3100;p3000", 3, 1);
        eating("w,3;p3100;p3000", 3, 0);
        eating("w,3;p9100;p1000;p1000", 3, 0, 0);
        eating("w,2;p0900;p2100;p1000", 0, 2, 0);
        eating("w,0,3;p3100;p3010", 0, 3);
        eating("w,9;p9900;p9900;p9900;p9900;p9900;p9900", 9, 0, 0, 0, 0, 0);
        eating("w,6;p1000;p1000;p1000;p1000;p1000;p1000", 1, 1, 1, 1, 1, 1);
        eating("w,5;p1000;p1000;p1000;p1000;p1000;p1000", 1, 1, 1, 1, 1, 0);
    }

    private static void crowding(String text, int... due) {
        LoafGates x = Check.of(text);
        for (int c = 0; c < due.length; c++) edge.same(3, text + " crowds " + c, x.ofComer(c, 8), due[c]);
    }

    private static void crowdsOut() {
        crowding("w,1;p1900;p2000", 2, 0);
        crowding("w,2;p2900;p2000", 0, 0);
        crowding("w,3;p3900;p2000", 0, 0);
        crowding("w,2;p1900;p2000", 0, 0);
        crowding("w,1,0;p1900;p2010", 0, 0);
        crowding("w,1;p1900;p0000", 0, 0);
        crowding("w,0;p1900;p2000", 0, 0);
        crowding("w,1;p1000;p1900", 0, 0);
        crowding("w,2;p1000;p2900", 0, 0);
        crowding("w,1;p0900;p1100;p2000", 0, 4, 0);
        crowding("w,1;p1900;p9000;p9000;p9000;p9000;p9000", 62, 0, 0, 0, 0, 0);
        crowding("w,5;p9000;p1900;p1900;p1900;p1900;p1900", 0, 1, 1, 1, 1, 1);
    }

    private static void placesDue(String text, int manner, int... due) {
        LoafGates x = Check.of(text);
        x.manner(manner);
        for (int c = 0; c < due.length; c++) {
            edge.same(3, "place of " + c + " in " + text + " by " + manner, x.ofComer(c, 9), due[c]);
        }
    }

    private static void places() {
        String alike = "w,1;p1100;p1100;p1100;p1100;p1100;p1100";
        for (int manner = 0; manner < 3; manner++) {
            placesDue(alike, manner, 0, 1, 2, 3, 4, 5);
            placesDue("w,1;p1109;p1108;p1107;p1102;p1101;p1100", manner, 5, 4, 3, 2, 1, 0);
            placesDue("w,1,1,1;p1100;p1110;p1120;p1120;p1110;p1100", manner, 0, 0, 0, 1, 1, 1);
        }
        placesDue("w,1;p1100;p1209", 0, 1, 0);
        placesDue("w,1;p1100;p1209", 1, 0, 1);
        placesDue("w,1;p1209;p1100", 2, 1, 0);
        placesDue("w,1;p1900;p2009", 1, 1, 0);
        placesDue("w,1;p9901;p0000", 2, 1, 0);
        placesDue("w,1;p0905;p0004;p0904", 2, 2, 0, 1);
        placesDue("w,1;p1300;c1200;c1201", 0, 0, 1, 2);
        placesDue("w,1;p1301;c1200;g1101", 0, 1, 0, 2);
    }

    // ---- promise 4

    private static void gateRefused() {
        for (int g : NO_GATE) {
            edge.refused(4, Edge::five, UNKNOWN, "ofGate", g, 0);
            edge.refused(4, Edge::five, UNKNOWN, "ofGate", g, 4);
        }
        for (int what : new int[] {-1, 4, Edge.LEAST, Edge.MOST}) {
            for (int g = 0; g < 3; g++) edge.refused(4, Edge::five, OUTSIDE, "ofGate", g, what);
        }
        edge.refused(4, LoafGates::new, UNKNOWN, "ofGate", 0, 0);
        edge.refused(4, () -> Check.of("w,1;p1100"), UNKNOWN, "ofGate", 1, 0);
        edge.refused(4, () -> Check.of("w,1,1;p1100"), UNKNOWN, "ofGate", 2, 0);
    }

    private static void gateDue(String text, int g, int... due) {
        LoafGates x = Check.of(text);
        for (int what = 0; what < 4; what++) edge.same(4, text + " what " + what, x.ofGate(g, what), due[what]);
    }

    private static void gates() {
        gateDue("w,0;p0000", 0, 0, 1, 0, 0);
        gateDue("w,0;p1000", 0, 0, 1, 0, 1);
        gateDue("w,9;p9000", 0, 9, 1, 0, 0);
        gateDue("w,9;p8000", 0, 9, 1, 1, 0);
        gateDue("w,9;p0000", 0, 9, 1, 9, 0);
        gateDue("w,9,1;p1010", 0, 9, 0, 9, 0);
        gateDue("w,3,9,3;p2020;p2020", 2, 3, 3, 0, 0);
        gateDue("w,3,9,3;p2020;p2020", 1, 9, 0, 9, 0);
        gateDue("w,0;p1000;p1000;p1000;p1000;p1000;p1000", 0, 0, 63, 0, 63);
        gateDue("w,0,0;p1000;p1010;p0000;p1010;p0010;p1000", 0, 0, 37, 0, 33);
        gateDue("w,0,0;p1000;p1010;p0000;p1010;p0010;p1000", 1, 0, 26, 0, 10);
    }

    // ---- promises 5 to 9

    private static void shown() {
        for (int c : Edge.NO_COMER_OF_FIVE) {
            edge.refused(5, Edge::five, UNKNOWN, "show", c, 0);
            edge.refused(5, Edge::five, UNKNOWN, "show", c, 10);
        }
        for (int v : Edge.NO_DIGIT) edge.refused(5, Edge::five, OUTSIDE, "show", 4, v);
        edge.refused(5, LoafGates::new, UNKNOWN, "show", 0, 0);
        LoafGates x = Check.of(Edge.SIX);
        for (int c = 0; c < 6; c++) {
            edge.same(5, "9 of " + c, x.show(c, 9), 0);
            edge.same(5, "9 again", x.show(c, 9), 9);
            edge.same(5, "0", x.show(c, 0), 9);
            edge.same(5, "is 0", x.ofComer(c, 2), 0);
        }
    }

    private static void led() {
        for (int c : Edge.NO_COMER_OF_FIVE) {
            edge.refused(6, Edge::five, UNKNOWN, "lead", c, 0);
            edge.refused(6, Edge::five, UNKNOWN, "lead", c, 3);
        }
        for (int g : NO_GATE) edge.refused(6, Edge::five, UNKNOWN, "lead", 0, g);
        edge.refused(6, LoafGates::new, UNKNOWN, "lead", 0, 0);
        edge.refused(6, () -> Check.of("w,1,1;p1100"), UNKNOWN, "lead", 0, 2);
        LoafGates x = Check.of(Edge.SIX);
        for (int c = 0; c < 6; c++) {
            edge.same(6, "to the last", x.lead(c, 2), c % 3);
            edge.same(6, "to the first", x.lead(c, 0), 2);
            edge.same(6, "to where it is", x.lead(c, 0), 0);
        }
        edge.same(6, "all at one", x.ofGate(0, 1), 63);
    }

    private static void baked() {
        for (int g : NO_GATE) {
            edge.refused(7, Edge::five, UNKNOWN, "bake", g, 0);
            edge.refused(7, Edge::five, UNKNOWN, "bake", g, 10);
        }
        for (int v : Edge.NO_DIGIT) edge.refused(7, Edge::five, OUTSIDE, "bake", 2, v);
        edge.refused(7, LoafGates::new, UNKNOWN, "bake", 0, 0);
        edge.refused(7, () -> Check.of("w,1;p1100"), UNKNOWN, "bake", 1, 1);
        LoafGates x = Check.of(Edge.SIX);
        for (int g = 0; g < 3; g++) {
            edge.same(7, "0 at " + g, x.bake(g, 0), 9);
            edge.same(7, "0 again", x.bake(g, 0), 0);
            edge.same(7, "9", x.bake(g, 9), 0);
            edge.same(7, "is 9", x.ofGate(g, 0), 9);
        }
    }

    private static void mannerAndChalk() {
        for (int v : new int[] {-1, 3, Edge.LEAST, Edge.MOST}) {
            edge.refused(8, Edge::five, OUTSIDE, "manner", v);
            edge.refused(8, LoafGates::new, OUTSIDE, "manner", v);
        }
        for (int v = 0; v <= 2; v++) edge.refused(8, Edge::rows, STATE, "manner", v);
        for (int v : Edge.NO_DIGIT) {
            edge.refused(9, Edge::five, OUTSIDE, "chalk", v);
            edge.refused(9, LoafGates::new, OUTSIDE, "chalk", v);
        }
        for (int v = 0; v <= 9; v++) edge.refused(9, Edge::rows, STATE, "chalk", v);
        LoafGates x = Check.of(Edge.SIX);
        edge.same(8, "2", x.manner(2), 0);
        edge.same(8, "2 again", x.manner(2), 2);
        edge.same(8, "0", x.manner(0), 2);
        edge.same(8, "is 0", x.many(5), 0);
        edge.same(9, "9", x.chalk(9), 1);
        edge.same(9, "9 again", x.chalk(9), 9);
        edge.same(9, "0", x.chalk(0), 9);
        edge.same(9, "is 0", x.many(6), 0);
    }
}
