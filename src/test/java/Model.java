import java.util.ArrayList;
import java.util.Arrays;
import java.util.Comparator;
import java.util.HashMap;
import java.util.List;
import java.util.Map;
import java.util.regex.Pattern;

/**
 * The document once more, written without a look at how the class does it: orders are sorted, loaves handed out
 * one by one, texts matched by patterns, all ways tried. Slow, and made to disagree with slips.
 */
final class Model {
    private static final Pattern TEXT = Pattern.compile(
            "w(,\\d)(;[pcg]\\d\\d0\\d){1,6}|w(,\\d){2}(;[pcg]\\d\\d[01]\\d){1,6}|w(,\\d){3}(;[pcg]\\d\\d[012]\\d){1,6}");
    private static final int UNKNOWN = -1, OUTSIDE = -2, STATE = -3, FULL = -4, NONE = -9;
    private static final long LOST = Long.MIN_VALUE;

    static final class Comer {
        int number, kind, hunger, show, gate, hour, eats, place;

        int look(int chalk) {
            int plain = show;
            int chalked = plain + chalk;
            return new int[] {plain, chalked, chalked + plain}[kind];
        }

        boolean without() {
            return hunger > 0 && eats == 0;
        }
    }

    static final class State {
        List<Integer> loaves = new ArrayList<>();
        List<Comer> comers = new ArrayList<>();
        List<Integer> left = new ArrayList<>();
        int manner, chalk;

        State twin() {
            State s = new State();
            s.loaves.addAll(loaves);
            s.manner = manner;
            s.chalk = chalk;
            for (Comer c : comers) {
                Comer d = new Comer();
                d.number = c.number;
                d.kind = c.kind;
                d.hunger = c.hunger;
                d.show = c.show;
                d.gate = c.gate;
                d.hour = c.hour;
                s.comers.add(d);
            }
            return s;
        }

        State served() {
            Comparator<Comer> order = Comparator.<Comer>comparingInt(c -> c.hour).thenComparingInt(c -> c.number);
            if (manner == 0) order = Comparator.<Comer>comparingInt(c -> -c.look(chalk)).thenComparing(order);
            if (manner == 1) order = Comparator.<Comer>comparingInt(c -> -c.hunger).thenComparing(order);
            left.clear();
            for (int g = 0; g < loaves.size(); g++) {
                List<Comer> row = new ArrayList<>();
                for (Comer c : comers) if (c.gate == g) row.add(c);
                row.sort(order);
                int rest = loaves.get(g);
                for (Comer c : row) {
                    c.place = row.indexOf(c);
                    c.eats = 0;
                    while (rest > 0 && c.eats < c.hunger) {
                        c.eats++;
                        rest--;
                    }
                }
                left.add(rest);
            }
            return this;
        }

        int withoutCount() {
            return (int) comers.stream().filter(Comer::without).count();
        }

        int withoutSet() {
            return comers.stream().filter(Comer::without).mapToInt(c -> 1 << c.number).sum();
        }

        String shows() {
            StringBuilder b = new StringBuilder();
            for (Comer c : comers) b.append(c.show);
            return b.toString();
        }

        void pass() {
            served();
            for (Comer c : comers) {
                if (c.without() && c.show < 9) c.show++;
                else if (!c.without() && c.hunger > 0 && c.show > 0) c.show--;
            }
        }
    }

    State now = new State();
    boolean[][] knows = new boolean[6][6];
    List<int[]> readings = new ArrayList<>();
    Object[] rows = new Object[4];
    private int trace, fault;

    private boolean noWinter() {
        return now.comers.isEmpty();
    }

    private boolean comer(int c) {
        return c >= 0 && c < now.comers.size();
    }

    private boolean gate(int g) {
        return g >= 0 && g < now.loaves.size();
    }

    private static boolean in(int v, int least, int most) {
        return least <= v && v <= most;
    }

    private int faulted(int f) {
        fault = f;
        return -10 - f;
    }

    private static int laneOf(Object row) {
        return row instanceof byte[] ? 0 : row instanceof short[] ? 1 : 2;
    }

    private static int[] ints(Object row) {
        int n = java.lang.reflect.Array.getLength(row);
        int[] all = new int[n];
        for (int i = 0; i < n; i++) all[i] = java.lang.reflect.Array.getInt(row, i);
        return all;
    }

    private static boolean range(Object row, long i, long n) {
        long length = java.lang.reflect.Array.getLength(row);
        return i >= 0 && i <= length && n >= 0 && i + n <= length;
    }

    int winter(int sheet, int lane, int i, int n) {
        fault = 0;
        if (!in(sheet, 0, 3)) return UNKNOWN;
        if (!in(lane, 0, 2)) return OUTSIDE;
        Object row = rows[sheet];
        if (row != null && laneOf(row) != lane) return faulted(2);
        if (row == null) return faulted(1);
        if (n < 0) return faulted(4);
        if (!range(row, i, n)) return faulted(3);
        StringBuilder b = new StringBuilder();
        for (int v : Arrays.copyOfRange(ints(row), i, i + n)) b.append(in(v, 1, 126) ? (char) v : '?');
        String text = b.toString();
        for (int p = 1; p <= n; p++) {
            if (!goesOn(text.substring(0, p))) return -100 - (p - 1);
        }
        if (!TEXT.matcher(text).matches()) return -100 - n;
        take(text);
        return now.comers.size();
    }

    private static boolean goesOn(String prefix) {
        String least = "w,0;p0000";
        for (int k = 0; k <= least.length(); k++) {
            if (TEXT.matcher(prefix + least.substring(k)).matches()) return true;
        }
        return false;
    }

    private void take(String text) {
        now = new State();
        String[] parts = text.split(";");
        for (String g : parts[0].substring(2).split(",")) now.loaves.add(Integer.valueOf(g));
        for (int k = 1; k < parts.length; k++) {
            Comer c = new Comer();
            c.number = k - 1;
            c.kind = "pcg".indexOf(parts[k].charAt(0));
            c.hunger = parts[k].charAt(1) - '0';
            c.show = parts[k].charAt(2) - '0';
            c.gate = parts[k].charAt(3) - '0';
            c.hour = parts[k].charAt(4) - '0';
            now.comers.add(c);
        }
        now.chalk = 1;
        knows = new boolean[6][6];
        readings.clear();
    }

    int ofComer(int c, int what) {
        if (!comer(c)) return UNKNOWN;
        if (!in(what, 0, 9)) return OUTSIDE;
        now.served();
        Comer x = now.comers.get(c);
        int out = 0;
        for (Comer d : now.comers) {
            if (x.eats > 0 && d.without() && d.gate == x.gate && d.hunger > x.hunger) out |= 1 << d.number;
        }
        return new int[] {x.kind, x.hunger, x.show, x.gate, x.hour, x.look(now.chalk), x.eats, x.without() ? 1 : 0,
            out, x.place}[what];
    }

    int ofGate(int g, int what) {
        if (!gate(g)) return UNKNOWN;
        if (!in(what, 0, 3)) return OUTSIDE;
        now.served();
        int here = 0;
        int hungry = 0;
        for (Comer c : now.comers) {
            if (c.gate != g) continue;
            here |= 1 << c.number;
            if (c.without()) hungry |= 1 << c.number;
        }
        return new int[] {now.loaves.get(g), here, now.left.get(g), hungry}[what];
    }

    int show(int c, int v) {
        if (!comer(c)) return UNKNOWN;
        if (!in(v, 0, 9)) return OUTSIDE;
        int was = now.comers.get(c).show;
        now.comers.get(c).show = v;
        return was;
    }

    int lead(int c, int g) {
        if (!comer(c)) return UNKNOWN;
        if (!gate(g)) return UNKNOWN;
        int was = now.comers.get(c).gate;
        now.comers.get(c).gate = g;
        return was;
    }

    int bake(int g, int v) {
        if (!gate(g)) return UNKNOWN;
        return in(v, 0, 9) ? now.loaves.set(g, v) : OUTSIDE;
    }

    int manner(int v) {
        if (!in(v, 0, 2)) return OUTSIDE;
        if (noWinter()) return STATE;
        int was = now.manner;
        now.manner = v;
        return was;
    }

    int chalk(int v) {
        if (!in(v, 0, 9)) return OUTSIDE;
        if (noWinter()) return STATE;
        int was = now.chalk;
        now.chalk = v;
        return was;
    }

    int day(int sheet, int lane, int i, int n, int what) {
        fault = 0;
        if (!in(sheet, 0, 3)) return UNKNOWN;
        if (!in(lane, 0, 2) || !in(n, 0, 20) || !in(what, 0, 4) && !in(what, 10, 15)) return OUTSIDE;
        if (noWinter()) return STATE;
        Object row = rows[sheet];
        if (row != null && laneOf(row) != lane) return faulted(2);
        if (row == null) return faulted(1);
        if (!range(row, i, 2L * n)) return faulted(3);
        int[] pairs = Arrays.copyOfRange(ints(row), i, i + 2 * n);
        int[] most = {9, 9, 9, 9, 9, 9, 2, 9, 9, 9, 9, 2, 2, 2, 2, 2, 2};
        for (int p = 0; p < n; p++) {
            int a = pairs[2 * p + 1];
            if (!in(a, 0, 16) || !in(pairs[2 * p], 0, most[a])) return OUTSIDE;
        }
        State s = now.twin();
        int wrong = NONE;
        for (int p = n - 1; p >= 0; p--) if (!canBe(pairs[2 * p], pairs[2 * p + 1])) wrong = p;
        if (what == 1) return wrong;
        if (wrong != NONE) return -100 - wrong;
        for (int p = 0; p < n; p++) {
            int v = pairs[2 * p];
            int a = pairs[2 * p + 1];
            if (a <= 5) s.comers.get(a).show = v;
            if (a == 6) s.manner = v;
            if (a == 7) s.chalk = v;
            if (in(a, 8, 10)) s.loaves.set(a - 8, v);
            if (a >= 11) s.comers.get(a - 11).gate = v;
        }
        s.served();
        if (what == 0) return (int) s.comers.stream().filter(c -> c.eats > 0).count();
        if (what == 2) return s.withoutSet();
        if (what == 3) return s.left.stream().mapToInt(v -> v).sum();
        if (what == 4) return s.comers.stream().mapToInt(c -> c.look(s.chalk)).sum();
        return comer(what - 10) ? s.comers.get(what - 10).eats : NONE;
    }

    private boolean canBe(int v, int a) {
        if (a <= 5) return comer(a);
        if (in(a, 8, 10)) return gate(a - 8);
        return a < 11 || comer(a - 11) && gate(v);
    }

    int know(int c, int d) {
        if (!comer(c) || !comer(d) || c == d) return UNKNOWN;
        knows[c][d] = !knows[c][d];
        return knows[c][d] ? 1 : 0;
    }

    int far(int c, int d) {
        if (!comer(c) || !comer(d)) return UNKNOWN;
        int far = ways()[c][d];
        return far > 50 ? NONE : far;
    }

    private int[][] ways() {
        int[][] w = new int[6][6];
        for (int a = 0; a < 6; a++) for (int b = 0; b < 6; b++) w[a][b] = a == b ? 0 : knows[a][b] ? 1 : 100;
        for (int m = 0; m < 6; m++) {
            for (int a = 0; a < 6; a++) for (int b = 0; b < 6; b++) w[a][b] = Math.min(w[a][b], w[a][m] + w[m][b]);
        }
        return w;
    }

    private int held(int v, boolean hungry) {
        int count = 0;
        for (Comer c : now.comers) {
            boolean heldFed = c.look(now.chalk) >= v;
            if (hungry ? c.hunger > 0 && heldFed : c.hunger == 0 && !heldFed) count++;
        }
        return count;
    }

    int lantern(int v, int what) {
        if (!in(v, 0, 30) || !in(what, 0, 1)) return OUTSIDE;
        return noWinter() ? STATE : held(v, what == 0);
    }

    int best() {
        if (noWinter()) return STATE;
        int best = 30;
        for (int v = 30; v >= 0; v--) {
            if (held(v, true) + held(v, false) <= held(best, true) + held(best, false)) best = v;
        }
        return best;
    }

    int without(int v) {
        if (!in(v, 0, 4)) return OUTSIDE;
        if (noWinter()) return STATE;
        int[] by = new int[3];
        for (int m = 0; m < 3; m++) {
            State s = now.twin();
            s.manner = m;
            by[m] = s.served().withoutCount();
        }
        int least = by[0] <= by[1] && by[0] <= by[2] ? 0 : by[1] <= by[2] ? 1 : 2;
        return v < 3 ? by[v] : v == 3 ? by[least] : least;
    }

    int gain(int c) {
        if (!comer(c)) return UNKNOWN;
        int eats = now.served().comers.get(c).eats;
        for (int v = now.comers.get(c).show + 1; v < 10; v++) {
            State s = now.twin();
            s.comers.get(c).show = v;
            if (s.served().comers.get(c).eats > eats) return v;
        }
        return NONE;
    }

    private boolean eatsBy(int c, int manner, int chalk) {
        State s = now.twin();
        s.manner = manner;
        s.chalk = chalk;
        return s.served().comers.get(c).eats > 0;
    }

    int needs(int c) {
        if (!comer(c)) return UNKNOWN;
        for (int v = 0; v < 10; v++) if (eatsBy(c, now.manner, v)) return v;
        return NONE;
    }

    int parted(int k) {
        if (!in(k, -1, 2)) return OUTSIDE;
        if (noWinter()) return STATE;
        if (k >= 0 && !gate(k)) return NONE;
        int gates = now.loaves.size();
        int all = now.loaves.stream().mapToInt(v -> v).sum();
        int fewest = 100;
        List<Integer> first = null;
        for (int code = 0; code < Math.round(Math.pow(10, gates)); code++) {
            String digits = String.format("%0" + gates + "d", code);
            State s = now.twin();
            s.loaves.clear();
            for (char ch : digits.toCharArray()) s.loaves.add(ch - '0');
            if (s.loaves.stream().mapToInt(v -> v).sum() != all) continue;
            if (s.served().withoutCount() < fewest) {
                fewest = s.withoutCount();
                first = s.loaves;
            }
        }
        return k < 0 ? fewest : first.get(k);
    }

    int given() {
        if (noWinter()) return STATE;
        now.served();
        List<Integer> loaves = new ArrayList<>();
        List<Integer> hungry = new ArrayList<>();
        for (Comer c : now.comers) {
            for (int k = 1; k < c.eats; k++) loaves.add(c.number);
            if (c.without()) hungry.add(c.number);
        }
        int steps = handOut(loaves, hungry, ways());
        return steps > 50 ? NONE : steps;
    }

    private static int handOut(List<Integer> loaves, List<Integer> hungry, int[][] ways) {
        if (hungry.isEmpty()) return 0;
        int best = 100;
        for (int k = 0; k < loaves.size(); k++) {
            if (k > 0 && loaves.get(k).equals(loaves.get(k - 1))) continue;
            List<Integer> others = new ArrayList<>(loaves);
            others.remove(k);
            int steps = ways[loaves.get(k)][hungry.get(0)];
            best = Math.min(best, steps + handOut(others, hungry.subList(1, hungry.size()), ways));
        }
        return best;
    }

    int settles(int what) {
        if (!in(what, 0, 1)) return OUTSIDE;
        if (noWinter()) return STATE;
        Map<String, Integer> seen = new HashMap<>();
        State s = now.twin();
        int t = 0;
        while (!seen.containsKey(s.shows())) {
            seen.put(s.shows(), t++);
            s.pass();
        }
        int behind = seen.get(s.shows());
        if (t > 300) return NONE;
        return what == 0 ? behind : t - behind;
    }

    int more(int n) {
        if (!in(n, 1, 99)) return OUTSIDE;
        if (noWinter()) return STATE;
        for (int k = 0; k < n; k++) now.pass();
        return now.served().withoutCount();
    }

    int reading(int c, int v) {
        if (!comer(c)) return UNKNOWN;
        if (!in(v, 0, 9)) return OUTSIDE;
        if (readings.size() == 8) return FULL;
        readings.add(new int[] {c, v});
        return readings.size() - 1;
    }

    int back(int k) {
        if (!in(k, 0, readings.size())) return OUTSIDE;
        readings = new ArrayList<>(readings.subList(0, readings.size() - k));
        return readings.size();
    }

    private int bitIfRead(State s, int bit) {
        s.served();
        return readings.stream().allMatch(r -> s.comers.get(r[0]).eats == r[1]) ? 1 << bit : 0;
    }

    int kinds(int c) {
        if (!comer(c)) return UNKNOWN;
        int set = 0;
        for (int v = 0; v < 3; v++) {
            State s = now.twin();
            s.comers.get(c).kind = v;
            set |= bitIfRead(s, v);
        }
        return set;
    }

    int shows(int c) {
        if (!comer(c)) return UNKNOWN;
        int set = 0;
        for (int v = 0; v < 10; v++) {
            State s = now.twin();
            s.comers.get(c).show = v;
            set |= bitIfRead(s, v);
        }
        return set;
    }

    int chalks() {
        if (noWinter()) return STATE;
        int set = 0;
        for (int v = 0; v < 10; v++) {
            State s = now.twin();
            s.chalk = v;
            set |= bitIfRead(s, v);
        }
        return set;
    }

    long odds(int c, int which) {
        if (!comer(c) || !in(which, 0, 1)) return LOST;
        long upper = 0;
        for (int m = 0; m < 3; m++) for (int v = 0; v < 10; v++) if (eatsBy(c, m, v)) upper++;
        long lower = 30;
        for (long p : new long[] {2, 3, 5}) {
            if (upper % p == 0) {
                upper /= p;
                lower /= p;
            }
        }
        return which == 0 ? upper : lower;
    }

    int sheet(int k, int lane, int n) {
        fault = 0;
        if (!in(k, 0, 3)) return UNKNOWN;
        if (!in(lane, 0, 2) || n > 60) return OUTSIDE;
        if (n < 0) return faulted(4);
        rows[k] = lane == 0 ? new byte[n] : lane == 1 ? new short[n] : new int[n];
        return 1;
    }

    int lose(int k) {
        if (!in(k, 0, 3)) return UNKNOWN;
        int had = rows[k] == null ? 0 : 1;
        rows[k] = null;
        return had;
    }

    int put(int k, int i, int v) {
        fault = 0;
        if (!in(k, 0, 3)) return UNKNOWN;
        if (rows[k] == null) return faulted(1);
        if (!range(rows[k], i, 1)) return faulted(3);
        if (rows[k] instanceof byte[] b) b[i] = (byte) v;
        if (rows[k] instanceof short[] s) s[i] = (short) v;
        if (rows[k] instanceof int[] n) n[i] = v;
        return 1;
    }

    long cell(int k, int i, int lane) {
        fault = 0;
        if (!in(k, 0, 3) || !in(lane, 0, 2)) return LOST;
        if (rows[k] != null && laneOf(rows[k]) != lane) fault = 2;
        else if (rows[k] == null) fault = 1;
        else if (!range(rows[k], i, 1)) fault = 3;
        return fault == 0 ? ints(rows[k])[i] : LOST;
    }

    int copy(int k, int i, int other, int j, int n) {
        fault = 0;
        if (!in(k, 0, 3) || !in(other, 0, 3)) return UNKNOWN;
        if (rows[k] == null || rows[other] == null) return faulted(1);
        if (laneOf(rows[k]) != laneOf(rows[other])) return faulted(2);
        if (!range(rows[k], i, n) || !range(rows[other], j, n)) return faulted(3);
        int[] were = ints(rows[k]);
        for (int p = 0; p < n; p++) put(other, j + p, were[i + p]);
        return n;
    }

    private void leave(int... numbers) {
        for (int number : numbers) trace = trace * 31 + number;
    }

    int tell(int c) {
        if (!comer(c)) return UNKNOWN;
        Comer x = now.comers.get(c);
        if (x.kind == 0) leave(1);
        if (x.kind == 1) leave(2, 1);
        if (x.kind == 2) leave(3, 2, 1, 1);
        return new int[] {x.show, x.show + 100, 2 * x.show + 100}[x.kind];
    }

    int greet(int c) {
        if (!comer(c)) return UNKNOWN;
        boolean grand = now.comers.get(c).kind == 2;
        leave(grand ? 5 : 4);
        return grand ? 60 : now.comers.get(c).hunger;
    }

    int as(int c, int kind) {
        fault = 0;
        if (!comer(c)) return UNKNOWN;
        if (!in(kind, 0, 2)) return OUTSIDE;
        return now.comers.get(c).kind < kind ? faulted(2) : 1;
    }

    int trace() {
        return trace;
    }

    int fault() {
        return fault;
    }

    int many(int what) {
        if (!in(what, 0, 6)) return OUTSIDE;
        if (noWinter()) return 0;
        int all = now.loaves.stream().mapToInt(v -> v).sum();
        return new int[] {now.loaves.size(), now.comers.size(), now.served().withoutCount(), all, readings.size(),
            now.manner, now.chalk}[what];
    }
}
