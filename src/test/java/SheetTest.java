/** Promises 28 to 38: sheets, parts. */
public final class SheetTest {
    private static final Check check = new Check();
    private static final String THREE = "w,5,2;p3400;c4401;g2202";

    public static void main(String[] args) {
        newRows();
        lostRows();
        cellsCut();
        putFaults();
        cellFaults();
        copies();
        copyFaults();
        telling();
        greeting();
        asKinds();
        traceWraps();
        faultOfLatest();
        manyOf();
        constants();
        check.end();
    }

    private static void newRows() {
        LoafGates x = new LoafGates();
        check.same("new", x.sheet(0, 0, 3), 1);
        x.put(0, 0, 7);
        x.put(0, 2, 7);
        check.same("anew", x.sheet(0, 2, 3), 1);
        check.same("0 at first", x.cell(0, 2, 2), 0);
        check.same("the first too", x.cell(0, 0, 2), 0);
        check.same("longest", x.sheet(3, 1, 60), 1);
        check.same("last of the longest", x.put(3, 59, 1), 1);
        check.same("shortest", x.sheet(3, 1, 0), 1);
        check.same("no cell of the shortest", x.put(3, 0, 1), -13);
        check.same("none, lane", x.sheet(4, 3, 61), LoafGates.UNKNOWN);
        check.same("-1", x.sheet(-1, 0, 1), LoafGates.UNKNOWN);
        check.same("lane 3", x.sheet(0, 3, -1), LoafGates.OUTSIDE);
        check.same("lane -1", x.sheet(0, -1, 1), LoafGates.OUTSIDE);
        check.same("61", x.sheet(0, 0, 61), LoafGates.OUTSIDE);
        check.same("below 0", x.sheet(0, 0, -1), -14);
        check.same("its fault", x.fault(), 4);
        check.same("the row stays", x.cell(0, 2, 2), 0);
    }

    private static void lostRows() {
        LoafGates x = new LoafGates();
        check.same("had nothing", x.lose(2), 0);
        x.sheet(2, 0, 0);
        check.same("had a row", x.lose(2), 1);
        check.same("has nothing", x.put(2, 0, 1), -11);
        check.same("lose names no fault", x.lose(2), 0);
        check.same("so it stays", x.fault(), 1);
        check.same("none", x.lose(4), LoafGates.UNKNOWN);
        check.same("-1", x.lose(-1), LoafGates.UNKNOWN);
    }

    private static void cut(int lane, int v, long due) {
        LoafGates x = new LoafGates();
        x.sheet(1, lane, 2);
        check.same("put " + v, x.put(1, 1, v), 1);
        check.same("lane " + lane + " of " + v, x.cell(1, 1, lane), due);
        check.same("the other stays", x.cell(1, 0, lane), 0);
    }

    private static void cellsCut() {
        cut(0, 127, 127);
        cut(0, 128, -128);
        cut(0, -129, 127);
        cut(0, 300, 44);
        cut(1, 32767, 32767);
        cut(1, 32768, -32768);
        cut(1, 70001, 4465);
        cut(2, 70001, 70001);
        cut(2, Integer.MIN_VALUE, Integer.MIN_VALUE);
    }

    private static void putFaults() {
        LoafGates x = new LoafGates();
        check.same("none", x.put(4, 0, 0), LoafGates.UNKNOWN);
        check.same("-1", x.put(-1, 0, 0), LoafGates.UNKNOWN);
        check.same("nothing", x.put(0, -1, 0), -11);
        x.sheet(0, 0, 3);
        check.same("ahead", x.put(0, -1, 0), -13);
        check.same("beyond", x.put(0, 3, 0), -13);
        check.same("fault", x.fault(), 3);
        check.same("far beyond", x.put(0, Integer.MAX_VALUE, 0), -13);
        check.same("last", x.put(0, 2, 0), 1);
        check.same("no fault", x.fault(), 0);
    }

    private static void lost(LoafGates x, int k, int i, int lane, int fault) {
        check.same("cell " + k + " " + i + " " + lane, x.cell(k, i, lane), LoafGates.LOST);
        check.same("its fault", x.fault(), fault);
    }

    private static void cellFaults() {
        LoafGates x = new LoafGates();
        lost(x, 0, -1, 0, 1);
        lost(x, 4, 0, 0, 0);
        lost(x, 0, 0, 0, 1);
        lost(x, 0, 0, 3, 0);
        x.sheet(0, 1, 3);
        lost(x, 0, -1, 0, 2);
        lost(x, 0, -1, 1, 3);
        lost(x, 0, 3, 1, 3);
        lost(x, 0, 0, -1, 0);
        lost(x, -1, 0, 1, 0);
        check.same("last", x.cell(0, 2, 1), 0);
        check.same("no fault", x.fault(), 0);
    }

    private static void row(LoafGates x, int k, int lane, int... due) {
        for (int i = 0; i < due.length; i++) check.same("cell " + i, x.cell(k, i, lane), due[i]);
    }

    private static void copies() {
        LoafGates x = new LoafGates();
        Check.write(x, 0, 1, 1, 2, 3, 4, 5);
        check.same("onward over itself", x.copy(0, 0, 0, 1, 4), 4);
        row(x, 0, 1, 1, 1, 2, 3, 4);
        Check.write(x, 0, 1, 1, 2, 3, 4, 5);
        check.same("back over itself", x.copy(0, 1, 0, 0, 4), 4);
        row(x, 0, 1, 2, 3, 4, 5, 5);
        Check.write(x, 3, 1, 9, 9, 9);
        check.same("to another", x.copy(0, 3, 3, 1, 2), 2);
        row(x, 3, 1, 9, 5, 5);
        check.same("none at the ends", x.copy(0, 5, 3, 3, 0), 0);
        check.same("no fault", x.fault(), 0);
    }

    private static void copyFaults() {
        LoafGates x = new LoafGates();
        check.same("none", x.copy(4, 0, 0, 0, 0), LoafGates.UNKNOWN);
        check.same("the other none", x.copy(0, 0, -1, 0, 0), LoafGates.UNKNOWN);
        x.sheet(0, 0, 3);
        x.sheet(1, 1, 3);
        x.sheet(2, 0, 5);
        check.same("nothing", x.copy(3, -1, 0, 0, 0), -11);
        check.same("the other nothing", x.copy(0, -1, 3, 0, 0), -11);
        check.same("unlike", x.copy(0, -1, 1, 0, 0), -12);
        int[][] beyond = {{-1, 0, 0}, {4, 0, 0}, {0, -1, 0}, {0, 6, 0}, {0, 0, -1}, {0, 0, 4}, {1, 0, 3}, {0, 3, 3},
            {1, 1, Integer.MAX_VALUE}, {Integer.MAX_VALUE, 0, 1}, {0, 0, Integer.MIN_VALUE}};
        for (int[] b : beyond) {
            check.same("copy " + b[0] + " " + b[1] + " " + b[2], x.copy(0, b[0], 2, b[1], b[2]), -13);
            check.same("its fault", x.fault(), 3);
        }
        check.same("just fits", x.copy(0, 0, 2, 2, 3), 3);
    }

    private static void telling() {
        LoafGates x = Check.of(THREE);
        check.same("plain", x.tell(0), 4);
        check.same("plain's trace", x.trace(), 1);
        LoafGates y = Check.of(THREE);
        check.same("chalked", y.tell(1), 104);
        check.same("chalked's trace", y.trace(), 2 * 31 + 1);
        LoafGates z = Check.of(THREE);
        z.show(2, 7);
        check.same("grand", z.tell(2), 114);
        check.same("grand's trace", z.trace(), ((3 * 31 + 2) * 31 + 1) * 31 + 1);
        check.same("none", z.tell(3), LoafGates.UNKNOWN);
        check.same("-1", z.tell(-1), LoafGates.UNKNOWN);
        check.same("none leaves nothing", z.trace(), ((3 * 31 + 2) * 31 + 1) * 31 + 1);
        check.same("in no winter", new LoafGates().tell(0), LoafGates.UNKNOWN);
    }

    private static void greeting() {
        LoafGates x = Check.of(THREE);
        check.same("plain", x.greet(0), 3);
        check.same("chalked", x.greet(1), 4);
        check.same("lent twice", x.trace(), 4 * 31 + 4);
        LoafGates y = Check.of(THREE);
        check.same("grand", y.greet(2), 60);
        check.same("its own", y.trace(), 5);
        check.same("none", y.greet(3), LoafGates.UNKNOWN);
        check.same("-1", y.greet(-1), LoafGates.UNKNOWN);
        check.same("none leaves nothing", y.trace(), 5);
    }

    private static void asKinds() {
        LoafGates x = Check.of(THREE);
        for (int c = 0; c < 3; c++) {
            for (int kind = 0; kind < 3; kind++) {
                boolean is = kind <= c;
                check.same("as " + c + " " + kind, x.as(c, kind), is ? 1 : -12);
                check.same("its fault", x.fault(), is ? 0 : 2);
            }
        }
        check.same("none", x.as(3, 3), LoafGates.UNKNOWN);
        check.same("-1", x.as(-1, 0), LoafGates.UNKNOWN);
        check.same("kind 3", x.as(0, 3), LoafGates.OUTSIDE);
        check.same("kind -1", x.as(0, -1), LoafGates.OUTSIDE);
        check.same("leaves nothing in trace", x.trace(), 0);
    }

    private static void traceWraps() {
        LoafGates x = Check.of(THREE);
        int due = 0;
        for (int k = 0; k < 20; k++) {
            x.greet(0);
            due = due * 31 + 4;
        }
        check.same("wraps", x.trace(), due);
        check.holds("it came so far", due != 0);
    }

    private static void faultOfLatest() {
        LoafGates x = Check.of(THREE);
        x.as(0, 2);
        x.tell(0);
        x.many(9);
        x.show(9, 9);
        x.lose(3);
        check.same("others leave it", x.fault(), 2);
        check.same("asking leaves it", x.fault(), 2);
        x.sheet(3, 0, 1);
        check.same("sheet clears it", x.fault(), 0);
        x.put(3, 1, 0);
        check.same("put tells it", x.fault(), 3);
        x.copy(9, 0, 0, 0, 0);
        check.same("a refusal clears it", x.fault(), 0);
        x.put(3, 1, 0);
        x.as(9, 0);
        check.same("as refused clears it", x.fault(), 0);
        x.put(3, 1, 0);
        x.day(9, 0, 0, 0, 0);
        check.same("day refused clears it", x.fault(), 0);
        x.put(3, 1, 0);
        x.winter(9, 0, 0, 0);
        check.same("winter refused clears it", x.fault(), 0);
        x.put(3, 1, 0);
        x.put(9, 1, 0);
        check.same("put refused clears it", x.fault(), 0);
        x.put(3, 1, 0);
        x.sheet(9, 1, 0);
        check.same("sheet refused clears it", x.fault(), 0);
        x.put(3, 1, 0);
        check.same("cell", x.cell(3, 0, 0), 0);
        check.same("cell clears it", x.fault(), 0);
    }

    private static void manyOf() {
        LoafGates x = Check.of("w,5,2,0;p3400;c4401;g2202;p1015;c0924");
        x.reading(0, 1);
        x.manner(2);
        x.chalk(6);
        int[] due = {3, 5, 1, 7, 1, 2, 6};
        for (int what = 0; what < due.length; what++) check.same("many " + what, x.many(what), due[what]);
        check.same("many 7", x.many(7), LoafGates.OUTSIDE);
        check.same("many -1", x.many(-1), LoafGates.OUTSIDE);
        check.same("many 7 in no winter", new LoafGates().many(7), LoafGates.OUTSIDE);
    }

    private static void constants() {
        check.same("UNKNOWN", LoafGates.UNKNOWN, -1);
        check.same("OUTSIDE", LoafGates.OUTSIDE, -2);
        check.same("STATE", LoafGates.STATE, -3);
        check.same("FULL", LoafGates.FULL, -4);
        check.same("NONE", LoafGates.NONE, -9);
    }
}
