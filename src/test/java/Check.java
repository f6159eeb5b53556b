/** What the tests share: answers compared with what is due, and winters made from texts. */
final class Check {
    private int wrong = 0;

    void same(String call, long got, long due) {
        if (got == due) return;
        wrong++;
        System.out.println(call + " answered " + got + ", due is " + due);
    }

    void holds(String what, boolean so) {
        same(what, so ? 1 : 0, 1);
    }

    void end() {
        System.out.println(wrong == 0 ? "all is as due" : wrong + " not as due");
        if (wrong != 0) System.exit(1);
    }

    static int[] codes(String text) {
        int[] codes = new int[text.length()];
        for (int i = 0; i < codes.length; i++) codes[i] = text.charAt(i);
        return codes;
    }

    static void write(LoafGates x, int sheet, int lane, int... cells) {
        x.sheet(sheet, lane, cells.length);
        for (int i = 0; i < cells.length; i++) x.put(sheet, i, cells[i]);
    }

    /** What winter answers to a text alone on sheet 0. */
    static int taken(LoafGates x, String text) {
        write(x, 0, 2, codes(text));
        return x.winter(0, 2, 0, text.length());
    }

    static LoafGates of(String text) {
        LoafGates x = new LoafGates();
        if (taken(x, text) < 0) throw new IllegalStateException("no text: " + text);
        return x;
    }
}
