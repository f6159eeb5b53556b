/** Loaves given at gates to whoever comes; what each call answers is told in the project's document. */
public final class LoafGates {
    public static final int UNKNOWN = -1, OUTSIDE = -2, STATE = -3, FULL = -4, NONE = -9;
    public static final long LOST = Long.MIN_VALUE;

    private static final int NULL = 1, CAST = 2, INDEX = 3, SIZE = 4;
    private static final int FAULT_BASE = -10, PLACE_BASE = -100;
    private static final int MOST_GATES = 3, MOST_COMERS = 6, MOST_DIGIT = 9;
    private static final int PLAIN = 0, CHALKED = 1, GRAND = 2;
    private static final int BY_LOOK = 0, BY_HUNGER = 1, BY_HOUR = 2, MANNERS = 3;
    private static final int CHALKS_IN_ALL = MOST_DIGIT + 1;
    private static final int SHEETS = 4, BYTES = 0, SHORTS = 1, INTS = 2, MOST_CELLS = 60;
    private static final int MOST_PAIRS = 20, MOST_READINGS = 8;
    private static final int MOST_LANTERN = 30, MOST_WINTERS_MORE = 99, MOST_TO_SETTLE = 300;
    private static final int DAY_EATERS = 0, DAY_FIRST_WRONG = 1, DAY_WITHOUT = 2, DAY_LEFT = 3, DAY_LOOKS = 4;
    private static final int DAY_EATS = 10;

    private final Winter now = new Winter();
    // All that only might be is played here, so that nothing has to be put back in now.
    private final Winter trial = new Winter();
    private final TextReader reader = new TextReader();
    private final Circle circle = new Circle();
    private final Giving giving = new Giving();
    private final Parting parting = new Parting();
    private final Settling settling = new Settling();
    private final Readings readings = new Readings();
    private final Sheet[] sheets = {new Sheet(), new Sheet(), new Sheet(), new Sheet()};
    private int traced = 0;
    private int lastFault = 0;

    public LoafGates() {
    }

    // ---- 1 the winter

    public int winter(int sheet, int lane, int i, int n) {
        lastFault = 0;
        if (!isSheet(sheet)) return UNKNOWN;
        if (!isLane(lane)) return OUTSIDE;
        Sheet text = sheets[sheet];
        int fault = text.faultAs(lane, i, n);
        if (fault != 0) return faulted(fault);
        int firstFault = reader.read(text, i, n, trial);
        if (firstFault != NONE) return PLACE_BASE - firstFault;
        now.become(trial);
        circle.forget();
        readings.count = 0;
        return now.comers;
    }

    public int ofComer(int c, int what) {
        if (!now.hasComer(c)) return UNKNOWN;
        switch (what) {
            case 0: return now.kind[c];
            case 1: return now.hunger[c];
            case 2: return now.show[c];
            case 3: return now.gate[c];
            case 4: return now.hour[c];
            case 5: return now.look(c);
            case 6: return now.eats(c);
            case 7: return now.starving() >> c & 1;
            case 8: return now.crowdedOutBy(c);
            case 9: return now.placeOf(c);
            default: return OUTSIDE;
        }
    }

    public int ofGate(int g, int what) {
        if (!now.hasGate(g)) return UNKNOWN;
        switch (what) {
            case 0: return now.loaves[g];
            case 1: return now.comersAt(g);
            case 2: return now.leftAt(g);
            case 3: return now.starving() & now.comersAt(g);
            default: return OUTSIDE;
        }
    }

    public int show(int c, int v) {
        if (!now.hasComer(c)) return UNKNOWN;
        if (!isDigit(v)) return OUTSIDE;
        int was = now.show[c];
        now.show[c] = v;
        return was;
    }

    public int lead(int c, int g) {
        if (!now.hasComer(c) || !now.hasGate(g)) return UNKNOWN;
        int was = now.gate[c];
        now.gate[c] = g;
        return was;
    }

    public int bake(int g, int v) {
        if (!now.hasGate(g)) return UNKNOWN;
        if (!isDigit(v)) return OUTSIDE;
        int was = now.loaves[g];
        now.loaves[g] = v;
        return was;
    }

    public int manner(int v) {
        if (!isManner(v)) return OUTSIDE;
        if (!now.stands()) return STATE;
        int was = now.manner;
        now.manner = v;
        return was;
    }

    public int chalk(int v) {
        if (!isDigit(v)) return OUTSIDE;
        if (!now.stands()) return STATE;
        int was = now.chalk;
        now.chalk = v;
        return was;
    }

    // ---- 2 days, those who know others

    public int day(int sheet, int lane, int i, int n, int what) {
        lastFault = 0;
        if (!isSheet(sheet)) return UNKNOWN;
        if (!isLane(lane) || n < 0 || n > MOST_PAIRS || !isAskedOfDay(what)) return OUTSIDE;
        if (!now.stands()) return STATE;
        Sheet acts = sheets[sheet];
        int fault = acts.faultAs(lane, i, 2 * n);
        if (fault != 0) return faulted(fault);
        if (!arePairsAsTold(acts, i, n)) return OUTSIDE;
        int wrong = playDay(acts, i, n);
        if (what == DAY_FIRST_WRONG) return wrong;
        return wrong == NONE ? ofDayPlayed(what) : PLACE_BASE - wrong;
    }

    public int know(int c, int d) {
        if (!now.hasComer(c) || !now.hasComer(d) || c == d) return UNKNOWN;
        return circle.turn(c, d);
    }

    public int far(int c, int d) {
        if (!now.hasComer(c) || !now.hasComer(d)) return UNKNOWN;
        return circle.stepsBetween(c, d);
    }

    // ---- 3 what would be better

    public int lantern(int v, int what) {
        if (v < 0 || v > MOST_LANTERN || what < 0 || what > 1) return OUTSIDE;
        if (!now.stands()) return STATE;
        return what == 0 ? now.hungryHeldFed(v) : now.fedNotHeldSo(v);
    }

    public int best() {
        if (!now.stands()) return STATE;
        int least = 0;
        int fewest = now.misheld(0);
        for (int v = 1; v <= MOST_LANTERN; v++) {
            int misheld = now.misheld(v);
            if (misheld < fewest) {
                fewest = misheld;
                least = v;
            }
        }
        return least;
    }

    public int without(int v) {
        if (v < 0 || v > MANNERS + 1) return OUTSIDE;
        if (!now.stands()) return STATE;
        if (v < MANNERS) return starvingByManner(v);
        int manner = mannerOfFewest();
        return v == MANNERS ? starvingByManner(manner) : manner;
    }

    public int gain(int c) {
        if (!now.hasComer(c)) return UNKNOWN;
        int eaten = now.eats(c);
        trial.become(now);
        for (int v = now.show[c] + 1; v <= MOST_DIGIT; v++) {
            trial.show[c] = v;
            if (trial.eats(c) > eaten) return v;
        }
        return NONE;
    }

    public int needs(int c) {
        if (!now.hasComer(c)) return UNKNOWN;
        trial.become(now);
        for (int v = 0; v <= MOST_DIGIT; v++) {
            trial.chalk = v;
            if (trial.eats(c) > 0) return v;
        }
        return NONE;
    }

    public int parted(int k) {
        if (k < -1 || k >= MOST_GATES) return OUTSIDE;
        if (!now.stands()) return STATE;
        if (k >= now.gates) return NONE;
        trial.become(now);
        parting.seek(trial);
        return k < 0 ? parting.fewest : parting.parts[k];
    }

    public int given() {
        if (!now.stands()) return STATE;
        return giving.fewestSteps(now, circle);
    }

    public int settles(int what) {
        if (what < 0 || what > 1) return OUTSIDE;
        if (!now.stands()) return STATE;
        trial.become(now);
        settling.follow(trial);
        return what == 0 ? settling.behind : settling.by;
    }

    public int more(int n) {
        if (n < 1 || n > MOST_WINTERS_MORE) return OUTSIDE;
        if (!now.stands()) return STATE;
        for (int w = 0; w < n; w++) now.passOn();
        return Integer.bitCount(now.starving());
    }

    // ---- 4 who ate

    public int reading(int c, int v) {
        if (!now.hasComer(c)) return UNKNOWN;
        if (!isDigit(v)) return OUTSIDE;
        return readings.note(c, v);
    }

    public int back(int k) {
        if (k < 0 || k > readings.count) return OUTSIDE;
        readings.count -= k;
        return readings.count;
    }

    public int kinds(int c) {
        if (!now.hasComer(c)) return UNKNOWN;
        trial.become(now);
        int set = 0;
        for (int kind = PLAIN; kind <= GRAND; kind++) {
            trial.kind[c] = kind;
            if (readings.areSoIn(trial)) set |= 1 << kind;
        }
        return set;
    }

    public int shows(int c) {
        if (!now.hasComer(c)) return UNKNOWN;
        trial.become(now);
        int set = 0;
        for (int v = 0; v <= MOST_DIGIT; v++) {
            trial.show[c] = v;
            if (readings.areSoIn(trial)) set |= 1 << v;
        }
        return set;
    }

    public int chalks() {
        if (!now.stands()) return STATE;
        trial.become(now);
        int set = 0;
        for (int v = 0; v <= MOST_DIGIT; v++) {
            trial.chalk = v;
            if (readings.areSoIn(trial)) set |= 1 << v;
        }
        return set;
    }

    public long odds(int c, int which) {
        if (!now.hasComer(c) || which < 0 || which > 1) return LOST;
        int all = MANNERS * CHALKS_IN_ALL;
        int fed = waysToEat(c);
        int common = greatestDivisor(fed, all);
        return which == 0 ? fed / common : all / common;
    }

    // ---- 5 sheets, parts

    public int sheet(int k, int lane, int n) {
        lastFault = 0;
        if (!isSheet(k)) return UNKNOWN;
        if (!isLane(lane) || n > MOST_CELLS) return OUTSIDE;
        if (n < 0) return faulted(SIZE);
        sheets[k].renew(lane, n);
        return 1;
    }

    public int lose(int k) {
        if (!isSheet(k)) return UNKNOWN;
        boolean had = sheets[k].hasRow();
        sheets[k].drop();
        return had ? 1 : 0;
    }

    public int put(int k, int i, int v) {
        lastFault = 0;
        if (!isSheet(k)) return UNKNOWN;
        Sheet row = sheets[k];
        if (!row.hasRow()) return faulted(NULL);
        if (!row.hasCells(i, 1)) return faulted(INDEX);
        row.cells[i] = row.cut(v);
        return 1;
    }

    public long cell(int k, int i, int lane) {
        lastFault = 0;
        if (!isSheet(k) || !isLane(lane)) return LOST;
        lastFault = sheets[k].faultAs(lane, i, 1);
        return lastFault == 0 ? sheets[k].cells[i] : LOST;
    }

    public int copy(int k, int i, int other, int j, int n) {
        lastFault = 0;
        if (!isSheet(k) || !isSheet(other)) return UNKNOWN;
        Sheet from = sheets[k];
        Sheet to = sheets[other];
        if (!from.hasRow() || !to.hasRow()) return faulted(NULL);
        if (from.lane != to.lane) return faulted(CAST);
        if (!from.hasCells(i, n) || !to.hasCells(j, n)) return faulted(INDEX);
        System.arraycopy(from.cells, i, to.cells, j, n);
        return n;
    }

    public int tell(int c) {
        if (!now.hasComer(c)) return UNKNOWN;
        if (now.kind[c] == GRAND) return tellGrand(c);
        return now.kind[c] == CHALKED ? tellChalked(c) : tellPlain(c);
    }

    public int greet(int c) {
        if (!now.hasComer(c)) return UNKNOWN;
        return now.kind[c] == GRAND ? greetGrand() : greetLent(c);
    }

    public int as(int c, int kind) {
        lastFault = 0;
        if (!now.hasComer(c)) return UNKNOWN;
        if (kind < PLAIN || kind > GRAND) return OUTSIDE;
        return now.kind[c] >= kind ? 1 : faulted(CAST);
    }

    public int trace() {
        return traced;
    }

    public int fault() {
        return lastFault;
    }

    public int many(int what) {
        switch (what) {
            case 0: return now.gates;
            case 1: return now.comers;
            case 2: return Integer.bitCount(now.starving());
            case 3: return now.allLoaves();
            case 4: return readings.count;
            case 5: return now.manner;
            case 6: return now.chalk;
            default: return OUTSIDE;
        }
    }

    // ---- what the calls share

    private int faulted(int fault) {
        lastFault = fault;
        return FAULT_BASE - fault;
    }

    private static boolean isSheet(int k) {
        return k >= 0 && k < SHEETS;
    }

    private static boolean isLane(int lane) {
        return lane >= BYTES && lane <= INTS;
    }

    private static boolean isDigit(int v) {
        return v >= 0 && v <= MOST_DIGIT;
    }

    private static boolean isManner(int v) {
        return v >= BY_LOOK && v <= BY_HOUR;
    }

    private static boolean isAskedOfDay(int what) {
        return what >= DAY_EATERS && what <= DAY_LOOKS || what >= DAY_EATS && what < DAY_EATS + MOST_COMERS;
    }

    // All pairs are looked at ahead of the first act: a refusal comes before what a day with a wrong act answers.
    private static boolean arePairsAsTold(Sheet acts, int i, int n) {
        for (int p = 0; p < n; p++) {
            int first = acts.cells[i + 2 * p];
            if (first < 0 || first > Winter.mostToldWith(acts.cells[i + 2 * p + 1])) return false;
        }
        return true;
    }

    private int playDay(Sheet acts, int i, int n) {
        trial.become(now);
        for (int p = 0; p < n; p++) {
            if (!trial.perform(acts.cells[i + 2 * p + 1], acts.cells[i + 2 * p])) return p;
        }
        return NONE;
    }

    private int ofDayPlayed(int what) {
        switch (what) {
            case DAY_EATERS: return trial.eaters();
            case DAY_WITHOUT: return trial.starving();
            case DAY_LEFT: return trial.allLeft();
            case DAY_LOOKS: return trial.allLooks();
            default: return trial.hasComer(what - DAY_EATS) ? trial.eats(what - DAY_EATS) : NONE;
        }
    }

    private int starvingByManner(int manner) {
        trial.become(now);
        trial.manner = manner;
        return Integer.bitCount(trial.starving());
    }

    private int mannerOfFewest() {
        int least = BY_LOOK;
        int fewest = starvingByManner(BY_LOOK);
        for (int manner = BY_HUNGER; manner < MANNERS; manner++) {
            int starving = starvingByManner(manner);
            if (starving < fewest) {
                fewest = starving;
                least = manner;
            }
        }
        return least;
    }

    private int waysToEat(int c) {
        trial.become(now);
        int ways = 0;
        for (int manner = 0; manner < MANNERS; manner++) {
            trial.manner = manner;
            for (int v = 0; v <= MOST_DIGIT; v++) {
                trial.chalk = v;
                if (trial.eats(c) > 0) ways++;
            }
        }
        return ways;
    }

    private static int greatestDivisor(int a, int b) {
        for (int d = b; d > 1; d--) {
            if (a % d == 0 && b % d == 0) return d;
        }
        return 1;
    }

    private void leaveTrace(int number) {
        traced = 31 * traced + number;
    }

    private int tellPlain(int c) {
        leaveTrace(1);
        return now.show[c];
    }

    private int tellChalked(int c) {
        leaveTrace(2);
        return tellPlain(c) + 100;
    }

    private int tellGrand(int c) {
        leaveTrace(3);
        return tellChalked(c) + tellPlain(c);
    }

    private int greetLent(int c) {
        leaveTrace(4);
        return now.hunger[c];
    }

    private int greetGrand() {
        leaveTrace(5);
        return 60;
    }

    /** Gates and comers as they stand or might stand, and what follows from that alone. */
    private static final class Winter {
        // The acts of a day: below ACT_MANNER a comer's show, ACT_MANNER + 1 the chalk.
        private static final int ACT_MANNER = 6, ACT_BAKE = 8, ACT_LEAD = 11, ACTS = 17;

        int gates = 0;
        int comers = 0;
        int manner = 0;
        int chalk = 0;
        final int[] loaves = new int[MOST_GATES];
        final int[] kind = new int[MOST_COMERS];
        final int[] hunger = new int[MOST_COMERS];
        final int[] show = new int[MOST_COMERS];
        final int[] gate = new int[MOST_COMERS];
        final int[] hour = new int[MOST_COMERS];

        boolean stands() {
            return comers > 0;
        }

        boolean hasGate(int g) {
            return g >= 0 && g < gates;
        }

        boolean hasComer(int c) {
            return c >= 0 && c < comers;
        }

        void begin() {
            gates = 0;
            comers = 0;
            manner = BY_LOOK;
            chalk = 1;
        }

        void become(Winter other) {
            gates = other.gates;
            comers = other.comers;
            manner = other.manner;
            chalk = other.chalk;
            System.arraycopy(other.loaves, 0, loaves, 0, MOST_GATES);
            System.arraycopy(other.kind, 0, kind, 0, MOST_COMERS);
            System.arraycopy(other.hunger, 0, hunger, 0, MOST_COMERS);
            System.arraycopy(other.show, 0, show, 0, MOST_COMERS);
            System.arraycopy(other.gate, 0, gate, 0, MOST_COMERS);
            System.arraycopy(other.hour, 0, hour, 0, MOST_COMERS);
        }

        int look(int c) {
            int plain = show[c];
            if (kind[c] == PLAIN) return plain;
            int chalked = plain + chalk;
            return kind[c] == CHALKED ? chalked : chalked + plain;
        }

        // The greatest comes first. One number for liking, hour and comer: no two are alike.
        private int rank(int c) {
            int liking = 0;
            if (manner == BY_LOOK) liking = look(c);
            if (manner == BY_HUNGER) liking = hunger[c];
            return 100 * liking - 10 * hour[c] - c;
        }

        int placeOf(int c) {
            int own = rank(c);
            int place = 0;
            for (int d = 0; d < comers; d++) {
                if (gate[d] == gate[c] && rank(d) > own) place++;
            }
            return place;
        }

        // No order has to be made: those ahead take what they hunger for, whoever of them is first.
        int eats(int c) {
            int own = rank(c);
            int rest = loaves[gate[c]];
            for (int d = 0; d < comers; d++) {
                if (gate[d] == gate[c] && rank(d) > own) rest -= hunger[d];
            }
            return Math.max(0, Math.min(rest, hunger[c]));
        }

        int starving() {
            int set = 0;
            for (int c = 0; c < comers; c++) {
                if (hunger[c] > 0 && eats(c) == 0) set |= 1 << c;
            }
            return set;
        }

        int crowdedOutBy(int c) {
            return eats(c) > 0 ? starving() & comersAt(gate[c]) & hungrierThan(c) : 0;
        }

        private int hungrierThan(int c) {
            int set = 0;
            for (int d = 0; d < comers; d++) {
                if (hunger[d] > hunger[c]) set |= 1 << d;
            }
            return set;
        }

        int comersAt(int g) {
            int set = 0;
            for (int c = 0; c < comers; c++) {
                if (gate[c] == g) set |= 1 << c;
            }
            return set;
        }

        int leftAt(int g) {
            int rest = loaves[g];
            for (int c = 0; c < comers; c++) {
                if (gate[c] == g) rest -= hunger[c];
            }
            return Math.max(0, rest);
        }

        int allLeft() {
            int left = 0;
            for (int g = 0; g < gates; g++) left += leftAt(g);
            return left;
        }

        int allLoaves() {
            int all = 0;
            for (int g = 0; g < gates; g++) all += loaves[g];
            return all;
        }

        int allLooks() {
            int all = 0;
            for (int c = 0; c < comers; c++) all += look(c);
            return all;
        }

        int eaters() {
            int count = 0;
            for (int c = 0; c < comers; c++) {
                if (eats(c) > 0) count++;
            }
            return count;
        }

        int hungryHeldFed(int v) {
            int count = 0;
            for (int c = 0; c < comers; c++) {
                if (hunger[c] > 0 && look(c) >= v) count++;
            }
            return count;
        }

        int fedNotHeldSo(int v) {
            int count = 0;
            for (int c = 0; c < comers; c++) {
                if (hunger[c] == 0 && look(c) < v) count++;
            }
            return count;
        }

        int misheld(int v) {
            return hungryHeldFed(v) + fedNotHeldSo(v);
        }

        // Who starves is asked of all before any shows otherwise: all change at once.
        void passOn() {
            int starving = starving();
            for (int c = 0; c < comers; c++) {
                if ((starving >> c & 1) == 1) {
                    show[c] = Math.min(MOST_DIGIT, show[c] + 1);
                } else if (hunger[c] > 0) {
                    show[c] = Math.max(0, show[c] - 1);
                }
            }
        }

        int showsAsNumber() {
            int number = 0;
            for (int c = 0; c < comers; c++) number = 10 * number + show[c];
            return number;
        }

        // -1 where there is no such act, so that nothing is as told with it.
        static int mostToldWith(int act) {
            if (act < 0 || act >= ACTS) return -1;
            if (act == ACT_MANNER) return BY_HOUR;
            return act >= ACT_LEAD ? MOST_GATES - 1 : MOST_DIGIT;
        }

        // Whether the act can be; then it is done.
        boolean perform(int act, int v) {
            if (act < ACT_MANNER) return changeShow(act, v);
            if (act >= ACT_LEAD) return changeGate(act - ACT_LEAD, v);
            if (act >= ACT_BAKE) return changeLoaves(act - ACT_BAKE, v);
            if (act == ACT_MANNER) manner = v;
            else chalk = v;
            return true;
        }

        private boolean changeShow(int c, int v) {
            if (!hasComer(c)) return false;
            show[c] = v;
            return true;
        }

        private boolean changeLoaves(int g, int v) {
            if (!hasGate(g)) return false;
            loaves[g] = v;
            return true;
        }

        private boolean changeGate(int c, int g) {
            if (!hasComer(c) || !hasGate(g)) return false;
            gate[c] = g;
            return true;
        }
    }

    /** Reads a text, code by code, into a winter. */
    private static final class TextReader {
        private static final int WRONG = -1, START = 0, FIRST_COMMA = 1, LOAVES = 2, BEHIND_GATE = 3;
        private static final int KIND = 4, HUNGER = 5, SHOW = 6, GATE = 7, HOUR = 8, BEHIND_COMER = 9;

        // The place of the first fault; NONE, if the text is taken.
        int read(Sheet text, int i, int n, Winter into) {
            into.begin();
            int step = START;
            for (int p = 0; p < n; p++) {
                step = stepBehind(step, text.cells[i + p], into);
                if (step == WRONG) return p;
            }
            return step == BEHIND_COMER ? NONE : n;
        }

        private static int stepBehind(int step, int code, Winter into) {
            switch (step) {
                case START: return code == 'w' ? FIRST_COMMA : WRONG;
                case FIRST_COMMA: return code == ',' ? LOAVES : WRONG;
                case LOAVES: return takeLoaves(code, into);
                case BEHIND_GATE: return behindGate(code, into);
                case BEHIND_COMER: return code == ';' && into.comers < MOST_COMERS ? KIND : WRONG;
                default: return takeOfComer(step, code, into);
            }
        }

        private static int behindGate(int code, Winter into) {
            if (code == ',' && into.gates < MOST_GATES) return LOAVES;
            return code == ';' ? KIND : WRONG;
        }

        private static int takeLoaves(int code, Winter into) {
            int digit = digitOf(code);
            if (digit < 0 || into.gates >= MOST_GATES) return WRONG;
            into.loaves[into.gates] = digit;
            into.gates++;
            return BEHIND_GATE;
        }

        private static int takeOfComer(int step, int code, Winter into) {
            int c = into.comers;
            int v = step == KIND ? kindOf(code) : digitOf(code);
            if (v < 0 || c >= MOST_COMERS || step == GATE && !into.hasGate(v)) return WRONG;
            switch (step) {
                case KIND: into.kind[c] = v; break;
                case HUNGER: into.hunger[c] = v; break;
                case SHOW: into.show[c] = v; break;
                case GATE: into.gate[c] = v; break;
                case HOUR:
                    into.hour[c] = v;
                    into.comers++;
                    break;
                default: return WRONG;
            }
            return step + 1;
        }

        private static int kindOf(int code) {
            switch (code) {
                case 'p': return PLAIN;
                case 'c': return CHALKED;
                case 'g': return GRAND;
                default: return WRONG;
            }
        }

        private static int digitOf(int code) {
            return code >= '0' && code <= '9' ? code - '0' : WRONG;
        }
    }

    /** Who knows whom. */
    private static final class Circle {
        final int[] known = new int[MOST_COMERS];

        void forget() {
            for (int c = 0; c < MOST_COMERS; c++) known[c] = 0;
        }

        int turn(int c, int d) {
            known[c] ^= 1 << d;
            return known[c] >> d & 1;
        }

        int stepsBetween(int c, int d) {
            int reached = 1 << c;
            for (int steps = 0; steps < MOST_COMERS; steps++) {
                if ((reached >> d & 1) == 1) return steps;
                reached |= knownToAnyOf(reached);
            }
            return NONE;
        }

        private int knownToAnyOf(int set) {
            int union = 0;
            for (int c = 0; c < MOST_COMERS; c++) {
                if ((set >> c & 1) == 1) union |= known[c];
            }
            return union;
        }
    }

    /** Loaves given on, from those who eat two or more to those who go without. */
    private static final class Giving {
        final int[] spare = new int[MOST_COMERS];

        int fewestSteps(Winter w, Circle circle) {
            for (int c = 0; c < MOST_COMERS; c++) spare[c] = w.hasComer(c) ? Math.max(0, w.eats(c) - 1) : 0;
            return fewestFrom(0, w.starving(), spare, circle);
        }

        // Of the comers from c on; c is the depth, too.
        private static int fewestFrom(int c, int starving, int[] spare, Circle circle) {
            if (c >= MOST_COMERS || starving >> c == 0) return 0;
            if ((starving >> c & 1) == 0) return fewestFrom(c + 1, starving, spare, circle);
            int fewest = NONE;
            for (int giver = 0; giver < MOST_COMERS; giver++) {
                int borne = spare[giver] > 0 ? circle.stepsBetween(giver, c) : NONE;
                if (borne == NONE) continue;
                spare[giver]--;
                int others = fewestFrom(c + 1, starving, spare, circle);
                spare[giver]++;
                if (others != NONE && (fewest == NONE || borne + others < fewest)) fewest = borne + others;
            }
            return fewest;
        }
    }

    /** All loaves parted anew between the gates. */
    private static final class Parting {
        final int[] parts = new int[MOST_GATES];
        int fewest = NONE;

        void seek(Winter w) {
            fewest = NONE;
            int all = w.allLoaves();
            for (int a = 0; a <= mostAt(0, w); a++) {
                for (int b = 0; b <= mostAt(1, w); b++) {
                    int c = all - a - b;
                    if (c >= 0 && c <= mostAt(2, w)) weigh(w, a, b, c);
                }
            }
        }

        private static int mostAt(int g, Winter w) {
            return w.hasGate(g) ? MOST_DIGIT : 0;
        }

        private void weigh(Winter w, int a, int b, int c) {
            w.loaves[0] = a;
            w.loaves[1] = b;
            w.loaves[2] = c;
            int starving = Integer.bitCount(w.starving());
            if (fewest != NONE && starving >= fewest) return;
            fewest = starving;
            System.arraycopy(w.loaves, 0, parts, 0, MOST_GATES);
        }
    }

    /** Winters followed until shows come back. */
    private static final class Settling {
        // Kept from one call to the next only for its room.
        final int[] seen = new int[MOST_TO_SETTLE + 1];
        int behind = NONE;
        int by = NONE;

        void follow(Winter w) {
            behind = NONE;
            by = NONE;
            for (int t = 0; t <= MOST_TO_SETTLE; t++) {
                seen[t] = w.showsAsNumber();
                int first = firstLike(t);
                if (first < t) {
                    behind = first;
                    by = t - first;
                    return;
                }
                w.passOn();
            }
        }

        private int firstLike(int t) {
            for (int s = 0; s < t; s++) {
                if (seen[s] == seen[t]) return s;
            }
            return t;
        }
    }

    /** What was read of who ate; it is asked of all as it is when it is asked, not as it was when it was read. */
    private static final class Readings {
        final int[] comer = new int[MOST_READINGS];
        final int[] eaten = new int[MOST_READINGS];
        int count = 0;

        int note(int c, int v) {
            if (count >= MOST_READINGS) return FULL;
            comer[count] = c;
            eaten[count] = v;
            count++;
            return count - 1;
        }

        boolean areSoIn(Winter w) {
            for (int r = 0; r < count; r++) {
                if (w.eats(comer[r]) != eaten[r]) return false;
            }
            return true;
        }
    }

    /** Nothing, or a row of cells of a lane; the room for the longest row is made once. */
    private static final class Sheet {
        private static final int NOTHING = -1;
        final int[] cells = new int[MOST_CELLS];
        int lane = NOTHING;
        int length = 0;

        boolean hasRow() {
            return lane != NOTHING;
        }

        void drop() {
            lane = NOTHING;
            length = 0;
        }

        void renew(int newLane, int n) {
            lane = newLane;
            length = n;
            for (int i = 0; i < MOST_CELLS; i++) cells[i] = 0;
        }

        // Taken from length, since i + n might wrap.
        boolean hasCells(int i, int n) {
            return i >= 0 && i <= length && n >= 0 && n <= length - i;
        }

        int faultAs(int asLane, int i, int n) {
            if (!hasRow()) return NULL;
            if (lane != asLane) return CAST;
            if (n < 0) return SIZE;
            return hasCells(i, n) ? 0 : INDEX;
        }

        int cut(int v) {
            if (lane == BYTES) return (byte) v;
            return lane == SHORTS ? (short) v : v;
        }
    }
}
