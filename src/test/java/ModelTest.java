import java.util.Arrays;
import java.util.Random;

/** Runs of calls, drawn from fixed seeds, on the class and on the model: all promises, as they meet one another. */
public final class ModelTest {
    private static final int RUNS = 3000, CALLS_OF_A_RUN = 500;
    private static final int[] EDGES = {Integer.MIN_VALUE, Integer.MAX_VALUE, -1, 10, 60, 61, 99, 100};

    private final Random draw;
    private final Calls gates = new Calls(new LoafGates());
    private final Calls model = new Calls(new Model());
    private final int run;
    private int calls = 0;
    private int wrong = 0;

    private ModelTest(int run) {
        this.run = run;
        this.draw = new Random(run);
    }

    public static void main(String[] args) {
        int wrong = 0;
        for (int run = 0; run < RUNS && wrong < 20; run++) wrong += new ModelTest(run).play();
        System.out.println(wrong == 0 ? "all is as due" : wrong + " not as due");
        if (wrong != 0) System.exit(1);
    }

    private int play() {
        while (calls < CALLS_OF_A_RUN - 60 && wrong == 0) {
            int act = draw.nextInt(20);
            if (calls == 0 && run % 10 != 0 || act == 0 && draw.nextInt(4) == 0) writeWinter();
            else if (act == 1) writeDay();
            else any();
        }
        return wrong;
    }

    private void call(String name, int... a) {
        calls++;
        long due = model.answer(name, a);
        long got = gates.answer(name, a);
        if (got == due) return;
        wrong++;
        System.out.println("run " + run + " call " + calls + ": " + name + Arrays.toString(a) + " answered " + got
                + ", due is " + due);
    }

    private int below(int n) {
        return draw.nextInt(n);
    }

    private void write(int sheet, int lane, int[] cells) {
        call("sheet", sheet, lane, cells.length);
        for (int i = 0; i < cells.length; i++) call("put", sheet, i, cells[i]);
    }

    private void writeWinter() {
        int most = below(3) == 0 ? 4 : 10;
        int gateCount = 1 + below(3);
        StringBuilder text = new StringBuilder("w");
        for (int g = 0; g < gateCount; g++) text.append(',').append(below(10));
        int comers = below(4) == 0 ? 1 + below(6) : 4 + below(3);
        for (int c = 0; c < comers; c++) {
            text.append(';').append("pcg".charAt(below(3))).append(below(most)).append(below(most))
                    .append(below(gateCount)).append(below(most));
        }
        if (below(6) == 0) text.append(";p1100");
        if (below(6) == 0) text.setCharAt(below(text.length()), "w,;pcg0123459x".charAt(below(14)));
        int sheet = below(4);
        int lane = below(3);
        write(sheet, lane, Check.codes(text.toString()));
        int n = below(8) == 0 ? below(text.length()) : text.length();
        call("winter", sheet, lane, 0, n);
    }

    private void writeDay() {
        int[] cells = new int[2 * below(6)];
        for (int p = 0; p < cells.length; p += 2) {
            cells[p + 1] = below(12) == 0 ? below(19) - 1 : below(17);
            int most = cells[p + 1] == 6 || cells[p + 1] >= 11 ? 3 : 10;
            cells[p] = below(20) == 0 ? below(13) - 1 : below(most);
        }
        int sheet = below(4);
        int lane = below(3);
        write(sheet, lane, cells);
        int[] asked = {0, 1, 2, 3, 4, 10, 11, 12, 13, 14, 15};
        for (int what : asked) call("day", sheet, lane, 0, cells.length / 2, what);
    }

    private int argument() {
        if (below(25) == 0) return EDGES[below(EDGES.length)];
        return below(3) == 0 ? below(12) - 1 : below(4);
    }

    private void any() {
        String name = Calls.NAMES[below(Calls.NAMES.length)];
        if (name.equals("lose") && below(4) != 0) return;
        int[] a = new int[5];
        for (int k = 0; k < a.length; k++) a[k] = argument();
        if (name.equals("reading") && below(2) == 0) a[1] = (int) model.answer("ofComer", a[0], 6);
        call(name, a);
        call("fault");
    }
}
