import java.util.Arrays;
import java.util.List;
import java.util.Random;

/** Whatever is asked, nothing is thrown; a refusal or fault changes nothing, nor does a call that only asks. */
public final class AnyCallTest {
    private static final List<String> CHANGING = List.of("winter", "show", "lead", "bake", "manner", "chalk", "know",
            "more", "reading", "back", "sheet", "lose", "put", "copy", "tell", "greet");
    private static final int[] WILD = {Integer.MIN_VALUE, Integer.MIN_VALUE + 1, -101, -10, -2, -1, 0, 1, 2, 3, 4, 5,
        6, 7, 8, 9, 10, 15, 16, 30, 31, 59, 60, 61, 99, 100, 1 << 16, Integer.MAX_VALUE - 1, Integer.MAX_VALUE};
    private static int wrong = 0;

    public static void main(String[] args) {
        Random draw = new Random(77);
        for (int run = 0; run < 400; run++) play(draw, run % 4);
        System.out.println(wrong == 0 ? "all is as due" : wrong + " not as due");
        if (wrong != 0) System.exit(1);
    }

    private static LoafGates start(int which) {
        if (which == 0) return new LoafGates();
        if (which == 1) return Check.of("w,0;p0000");
        if (which == 2) return Check.of("w,5,2,0;p3400;c4401;g2202;p1015;c0924");
        LoafGates x = Check.of("w,9,9,9;g9929;g9929;g9929;g9929;g9929;g9929");
        Check.write(x, 1, 0, new int[60]);
        Check.write(x, 2, 1, new int[60]);
        return x;
    }

    private static void play(Random draw, int which) {
        LoafGates x = start(which);
        Calls calls = new Calls(x);
        for (int k = 0; k < 200; k++) {
            String name = Calls.NAMES[draw.nextInt(Calls.NAMES.length)];
            int[] a = new int[5];
            for (int p = 0; p < 5; p++) a[p] = draw.nextInt(3) == 0 ? draw.nextInt(4) : WILD[draw.nextInt(WILD.length)];
            String before = Edge.digest(x);
            long answer = calls.answer(name, a);
            boolean mayChange = CHANGING.contains(name) && answer >= 0;
            if (mayChange || before.equals(Edge.digest(x))) continue;
            wrong++;
            System.out.println(name + Arrays.toString(a) + " answered " + answer + " and changed something");
        }
    }
}
