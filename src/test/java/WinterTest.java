/** Promises 1 to 9: the new object, the winter. */
public final class WinterTest {
    private static final Check check = new Check();
    private static final String FIVE = "w,5,2,0;p3400;c4401;g2202;p1015;c0924";

    public static void main(String[] args) {
        newObject();
        textsTaken();
        textsWithFaults();
        winterRefusals();
        winterMakesAllAnew();
        refusedTextChangesNothing();
        ofComers();
        orderOfAlike();
        hourNeverOutweighsLooks();
        crowdingOut();
        ofGates();
        fewerComersThanBefore();
        changes();
        changesRefused();
        check.end();
    }

    private static void newObject() {
        LoafGates x = new LoafGates();
        for (int what = 0; what <= 6; what++) check.same("new many " + what, x.many(what), 0);
        check.same("new ofComer", x.ofComer(0, 0), LoafGates.UNKNOWN);
        check.same("new ofGate", x.ofGate(0, 0), LoafGates.UNKNOWN);
        check.same("new trace", x.trace(), 0);
        check.same("new fault", x.fault(), 0);
        for (int k = 0; k < 4; k++) check.same("new lose " + k, x.lose(k), 0);
    }

    private static void textsTaken() {
        check.same("five", Check.taken(new LoafGates(), FIVE), 5);
        check.same("least", Check.taken(new LoafGates(), "w,0;p0000"), 1);
        LoafGates x = new LoafGates();
        check.same("most", Check.taken(x, "w,9,9,9;p9929;c9929;g9929;p9909;c9919;g9929"), 6);
        check.same("most gates", x.many(0), 3);
        Check.write(x, 3, 0, Check.codes("ppw,1,2;c1234p".replace("1234", "1214")));
        check.same("a part of a sheet", x.winter(3, 0, 2, 11), 1);
        check.same("gates of the part", x.many(0), 2);
        check.same("gate of the part", x.ofComer(0, 3), 1);
    }

    private static void fault(String text, int place) {
        check.same("fault of " + text, Check.taken(new LoafGates(), text), -100 - place);
    }

    private static void textsWithFaults() {
        fault("", 0);
        fault("x,1;p1100", 0);
        fault("w;p1100", 1);
        fault("w,;p1100", 2);
        fault("w,/;p1100", 2);
        fault("w,:;p1100", 2);
        fault("w,10;p1100", 3);
        fault("w,1,1,1,1;p1100", 7);
        fault("w,1,1,1", 7);
        fault("w,1", 3);
        fault("w,1;", 4);
        fault("w,1;x1100", 4);
        fault("w,1;px100", 5);
        fault("w,1;p1x00", 6);
        fault("w,1;p1110", 7);
        fault("w,1,1;p1120", 9);
        fault("w,1;p110x", 8);
        fault("w,1;p110", 8);
        fault("w,1;p1100,", 9);
        fault("w,1;p1100;", 10);
        fault("w,1;p1100;p1100;p1100;p1100;p1100;p1100;", 39);
        fault("w,1;p1100;p1100;p1100;p1100;p1100;p1100x", 39);
        LoafGates x = new LoafGates();
        Check.write(x, 0, 2, 119, 44, Integer.MIN_VALUE);
        check.same("a number that is no code", x.winter(0, 2, 0, 3), -102);
        check.same("a text refused is no fault", x.fault(), 0);
    }

    private static void winterRefusals() {
        LoafGates x = new LoafGates();
        check.same("no sheet, no lane", x.winter(-1, 3, 0, 1), LoafGates.UNKNOWN);
        check.same("no sheet", x.winter(4, 0, 0, 1), LoafGates.UNKNOWN);
        check.same("lane 3", x.winter(0, 3, 0, 1), LoafGates.OUTSIDE);
        check.same("lane -1", x.winter(0, -1, 0, 1), LoafGates.OUTSIDE);
        check.same("nothing", x.winter(0, 0, 5, -1), -11);
        check.same("nothing's fault", x.fault(), 1);
        x.sheet(0, 1, 9);
        check.same("cast ahead of size", x.winter(0, 0, 10, -1), -12);
        check.same("size ahead of index", x.winter(0, 1, 10, -1), -14);
        check.same("size's fault", x.fault(), 4);
        check.same("no cells beyond", x.winter(0, 1, 10, 0), -13);
        check.same("no cells ahead", x.winter(0, 1, -1, 0), -13);
        check.same("no cells at the end", x.winter(0, 1, 9, 0), -100);
        check.same("one cell at the end", x.winter(0, 1, 9, 1), -13);
        check.same("i and n that wrap", x.winter(0, 1, 5, Integer.MAX_VALUE), -13);
        check.same("index's fault", x.fault(), 3);
        x.winter(0, 3, 0, 0);
        check.same("a refusal clears it", x.fault(), 0);
    }

    private static void winterMakesAllAnew() {
        LoafGates x = Check.of(FIVE);
        check.same("chalk at first", x.many(6), 1);
        x.manner(2);
        x.chalk(7);
        x.know(0, 1);
        x.reading(0, 1);
        x.tell(0);
        x.without(2);
        Check.taken(x, "w,1;p1100;p1100");
        check.same("gates anew", x.many(0), 1);
        check.same("comers anew", x.many(1), 2);
        check.same("readings anew", x.many(4), 0);
        check.same("manner anew", x.many(5), 0);
        check.same("chalk anew", x.many(6), 1);
        check.same("nobody knows", x.far(0, 1), LoafGates.NONE);
        check.same("trace stays", x.trace(), 1);
    }

    private static void refusedTextChangesNothing() {
        LoafGates x = Check.of(FIVE);
        x.manner(2);
        x.chalk(7);
        x.know(0, 1);
        x.reading(0, 1);
        check.same("refused", Check.taken(x, "w,9;g9900;x"), -110);
        check.same("gates stay", x.many(0), 3);
        check.same("comers stay", x.many(1), 5);
        check.same("loaves stay", x.ofGate(0, 0), 5);
        check.same("hunger stays", x.ofComer(0, 1), 3);
        check.same("readings stay", x.many(4), 1);
        check.same("manner stays", x.many(5), 2);
        check.same("chalk stays", x.many(6), 7);
        check.same("who knows stays", x.far(0, 1), 1);
    }

    private static void comer(LoafGates x, int c, int... due) {
        for (int what = 0; what < due.length; what++) {
            check.same("comer " + c + " what " + what, x.ofComer(c, what), due[what]);
        }
    }

    private static void ofComers() {
        LoafGates x = Check.of(FIVE);
        comer(x, 0, 0, 3, 4, 0, 0, 4, 0, 1, 0, 2);
        comer(x, 1, 1, 4, 4, 0, 1, 5, 4, 0, 0, 0);
        comer(x, 2, 2, 2, 2, 0, 2, 5, 1, 0, 1, 1);
        comer(x, 3, 0, 1, 0, 1, 5, 0, 1, 0, 0, 0);
        comer(x, 4, 1, 0, 9, 2, 4, 10, 0, 0, 0, 0);
        x.chalk(9);
        check.same("plain look", x.ofComer(0, 5), 4);
        check.same("chalked look", x.ofComer(1, 5), 13);
        check.same("grand look", x.ofComer(2, 5), 13);
        check.same("no comer, no what", x.ofComer(5, 10), LoafGates.UNKNOWN);
        check.same("comer -1", x.ofComer(-1, 0), LoafGates.UNKNOWN);
        check.same("what 10", x.ofComer(0, 10), LoafGates.OUTSIDE);
        check.same("what -1", x.ofComer(0, -1), LoafGates.OUTSIDE);
    }

    private static void places(LoafGates x, String told, int... due) {
        for (int c = 0; c < due.length; c++) check.same(told + " of " + c, x.ofComer(c, 9), due[c]);
    }

    private static void orderOfAlike() {
        LoafGates x = Check.of("w,3;p1509;p3502;p3402;p3902;p0901;p9100");
        places(x, "by looks", 3, 2, 4, 1, 0, 5);
        x.manner(1);
        places(x, "by hunger", 4, 1, 2, 3, 5, 0);
        x.manner(2);
        places(x, "by the hour", 5, 2, 3, 4, 1, 0);
    }

    private static void hourNeverOutweighsLooks() {
        LoafGates x = Check.of("w,1;p1400;p0000;p0000;p0000;p0000;p1509");
        check.same("the last and latest first", x.ofComer(5, 9), 0);
        check.same("the first and earliest behind it", x.ofComer(0, 7), 1);
    }

    private static void crowdingOut() {
        LoafGates x = Check.of("w,2,0;p1900;p1800;p2700;p1600;p0900;p3510");
        check.same("more hunger alone", x.ofComer(0, 8), 1 << 2);
        check.same("the second too", x.ofComer(1, 8), 1 << 2);
        check.same("one without none", x.ofComer(3, 8), 0);
        check.same("one that eats none", x.ofComer(4, 8), 0);
        check.same("as much hunger is not out", x.ofComer(3, 7), 1);
        check.same("at the other gate", x.ofComer(5, 7), 1);
    }

    private static void ofGates() {
        LoafGates x = Check.of(FIVE);
        int[][] due = {{5, 7, 0, 1}, {2, 8, 1, 0}, {0, 16, 0, 0}};
        for (int g = 0; g < 3; g++) {
            for (int what = 0; what < 4; what++) {
                check.same("gate " + g + " what " + what, x.ofGate(g, what), due[g][what]);
            }
        }
        check.same("no gate, no what", x.ofGate(3, 4), LoafGates.UNKNOWN);
        check.same("gate -1", x.ofGate(-1, 0), LoafGates.UNKNOWN);
        check.same("gate what 4", x.ofGate(0, 4), LoafGates.OUTSIDE);
        check.same("gate what -1", x.ofGate(0, -1), LoafGates.OUTSIDE);
        LoafGates y = Check.of("w,7,1;p9910");
        check.same("a gate without comers", y.ofGate(0, 1), 0);
        check.same("all left there", y.ofGate(0, 2), 7);
        check.same("some is given where too few are", y.ofComer(0, 6), 1);
    }

    private static void fewerComersThanBefore() {
        LoafGates x = Check.of("w,9,9,9;g9909;g9909;p0909;g9909;g9909;g9909");
        x.day(0, 2, 0, 0, 0);
        Check.taken(x, "w,3;p1500");
        check.same("left", x.ofGate(0, 2), 2);
        check.same("comers there", x.ofGate(0, 1), 1);
        check.same("who eat", x.day(0, 2, 0, 0, 0), 1);
        check.same("left at all", x.day(0, 2, 0, 0, 3), 2);
        check.same("looks", x.day(0, 2, 0, 0, 4), 5);
        check.same("held fed", x.lantern(1, 0), 1);
        check.same("loaves", x.many(3), 3);
        Check.taken(x, "w,0;p1500;p1500");
        check.same("given of none", x.given(), LoafGates.NONE);
    }

    private static void changes() {
        LoafGates x = Check.of(FIVE);
        check.same("show", x.show(0, 9), 4);
        check.same("show anew", x.ofComer(0, 2), 9);
        check.same("first by show", x.ofComer(0, 9), 0);
        check.same("eats by show", x.ofComer(0, 6), 3);
        check.same("lead", x.lead(0, 1), 0);
        check.same("led", x.ofComer(0, 3), 1);
        check.same("eats where led", x.ofComer(0, 6), 2);
        check.same("comers there", x.ofGate(1, 1), 9);
        check.same("lead to where it is", x.lead(0, 1), 1);
        check.same("bake", x.bake(1, 9), 2);
        check.same("baked", x.ofGate(1, 0), 9);
        check.same("bake none", x.bake(1, 0), 9);
        check.same("without then", x.ofGate(1, 3), 9);
        check.same("manner", x.manner(2), 0);
        check.same("manner again", x.manner(1), 2);
        check.same("manner told", x.many(5), 1);
        check.same("chalk", x.chalk(0), 1);
        check.same("chalk again", x.chalk(9), 0);
        check.same("chalk told", x.many(6), 9);
    }

    private static void changesRefused() {
        LoafGates x = Check.of(FIVE);
        check.same("show of none", x.show(5, 10), LoafGates.UNKNOWN);
        check.same("show 10", x.show(0, 10), LoafGates.OUTSIDE);
        check.same("show -1", x.show(0, -1), LoafGates.OUTSIDE);
        check.same("show stays", x.ofComer(0, 2), 4);
        check.same("lead of none", x.lead(-1, 0), LoafGates.UNKNOWN);
        check.same("lead to none", x.lead(0, 3), LoafGates.UNKNOWN);
        check.same("gate stays", x.ofComer(0, 3), 0);
        check.same("bake at none", x.bake(3, 10), LoafGates.UNKNOWN);
        check.same("bake 10", x.bake(0, 10), LoafGates.OUTSIDE);
        check.same("bake -1", x.bake(0, -1), LoafGates.OUTSIDE);
        check.same("loaves stay", x.ofGate(0, 0), 5);
        check.same("manner 3", x.manner(3), LoafGates.OUTSIDE);
        check.same("manner -1", x.manner(-1), LoafGates.OUTSIDE);
        check.same("chalk 10", x.chalk(10), LoafGates.OUTSIDE);
        check.same("chalk -1", x.chalk(-1), LoafGates.OUTSIDE);
        LoafGates none = new LoafGates();
        check.same("manner 3 of none", none.manner(3), LoafGates.OUTSIDE);
        check.same("manner of none", none.manner(0), LoafGates.STATE);
        check.same("chalk 10 of none", none.chalk(10), LoafGates.OUTSIDE);
        check.same("chalk of none", none.chalk(0), LoafGates.STATE);
        check.same("show in no winter", none.show(0, 0), LoafGates.UNKNOWN);
        check.same("lead in no winter", none.lead(0, 0), LoafGates.UNKNOWN);
        check.same("bake in no winter", none.bake(0, 0), LoafGates.UNKNOWN);
    }
}
