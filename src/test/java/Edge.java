import java.util.Arrays;
import java.util.List;
import java.util.function.Supplier;

/**
 * What the tests of boundary cases share: every check tells the number of its promise, and a call that is refused
 * is looked at from all sides: its answer, fault() behind it, and that nothing else is changed.
 */
final class Edge {
    static final int LEAST = Integer.MIN_VALUE, MOST = Integer.MAX_VALUE;
    static final String FIVE = "w,5,2,0;p3400;c4401;g2202;p1015;c0924";
    static final String SIX = "w,9,9,9;p1000;c1010;g1020;p1000;c1010;g1020";
    static final int[] NO_SHEET = {-1, 4, LEAST, MOST};
    static final int[] NO_LANE = {-1, 3, LEAST, MOST};
    static final int[] NO_DIGIT = {-1, 10, LEAST, MOST};
    static final int[] NO_COMER_OF_FIVE = {-1, 5, 6, LEAST, MOST};
    static final List<String> NAMING_FAULTS = List.of("winter", "day", "sheet", "put", "cell", "copy", "as");

    private final Check check = new Check();
    private final int first;
    private final int last;
    private final boolean[] told = new boolean[39];

    /** For the promises from first to last, each of which must have a check. */
    Edge(int first, int last) {
        this.first = first;
        this.last = last;
    }

    void same(int promise, String words, long got, long due) {
        told[promise] = true;
        check.same("promise " + promise + ": " + words, got, due);
    }

    void end() {
        for (int p = first; p <= last; p++) check.holds("promise " + p + " has a check", told[p]);
        check.end();
    }

    /** No winter, but rows: ints, bytes and shorts on sheets 0 to 2, nothing on 3. */
    static LoafGates rows() {
        LoafGates x = new LoafGates();
        Check.write(x, 0, 2, 7, 70000, -1);
        Check.write(x, 1, 0, 1, 2, 3, 4, 5);
        Check.write(x, 2, 1, 300, 0, -300, 0);
        return x;
    }

    /** Five comers, and nothing as it is at first; sheet 0 has ints, 1 bytes, 2 shorts, 3 nothing. */
    static LoafGates five() {
        LoafGates x = Check.of(FIVE);
        Check.write(x, 1, 0, 1, 2, 3, 4, 5);
        Check.write(x, 2, 1, 300, 0, -300, 0);
        x.show(1, 5);
        x.lead(3, 0);
        x.bake(2, 3);
        x.manner(1);
        x.chalk(4);
        x.know(0, 1);
        x.know(1, 2);
        x.reading(1, 4);
        x.reading(0, 1);
        x.tell(2);
        return x;
    }

    /** A call that is refused or comes to a fault, in a state that is made anew for it. */
    void refused(int promise, Supplier<LoafGates> state, long due, String name, int... a) {
        boolean fault = due <= -11 && due >= -14;
        refusedWith(promise, state, due, fault ? (int) (-10 - due) : 0, name, a);
    }

    /** As refused, of a call that answers LOST whatever it came to. */
    void lost(int promise, Supplier<LoafGates> state, int fault, String name, int... a) {
        refusedWith(promise, state, LoafGates.LOST, fault, name, a);
    }

    private void refusedWith(int promise, Supplier<LoafGates> state, long due, int fault, String name, int... a) {
        String words = name + Arrays.toString(a);
        LoafGates x = state.get();
        int before = otherFault(x, fault);
        same(promise, words, new Calls(x).answer(name, a), due);
        same(promise, "fault() behind " + words, x.fault(), NAMING_FAULTS.contains(name) ? fault : before);
        String changed = digest(x);
        boolean asItWas = changed.equals(digest(state.get()));
        same(promise, "nothing is changed by " + words, asItWas ? 1 : 0, 1);
    }

    /** Comes to a fault that is not the one told, and changes nothing by it, so that a new fault() can be seen. */
    private static int otherFault(LoafGates x, int fault) {
        if (fault != 4) x.sheet(0, 0, -1);
        else x.put(0, -1, 0);
        return x.fault();
    }

    /** All that is held, by few enough calls that an object's 512 suffice. */
    static String digest(LoafGates x) {
        StringBuilder b = new StringBuilder();
        for (int what = 0; what < 7; what++) b.append(x.many(what)).append(' ');
        for (int c = 0; c < 6; c++) {
            for (int what = 0; what < 5; what++) b.append(x.ofComer(c, what)).append(' ');
            for (int d = 0; d < 6; d++) b.append(x.far(c, d)).append(' ');
            b.append(x.kinds(c)).append(' ').append(x.shows(c)).append(' ');
        }
        for (int g = 0; g < 3; g++) b.append(x.ofGate(g, 0)).append(' ');
        b.append(x.trace()).append(' ').append(x.chalks());
        for (int k = 0; k < 4; k++) b.append(" | ").append(row(x, k));
        return b.toString();
    }

    private static String row(LoafGates x, int k) {
        for (int lane = 0; lane < 3; lane++) {
            long cell = x.cell(k, 0, lane);
            if (x.fault() == 1) return "nothing";
            if (x.fault() == 2) continue;
            StringBuilder b = new StringBuilder("lane " + lane);
            for (int i = 1; x.fault() == 0; i++) {
                b.append(' ').append(cell);
                cell = x.cell(k, i, lane);
            }
            return b.toString();
        }
        return "no lane";
    }
}
