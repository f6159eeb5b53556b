/** Every call of the face by a number, on the class and on the model alike. */
final class Calls {
    static final String[] NAMES = {"winter", "ofComer", "ofGate", "show", "lead", "bake", "manner", "chalk", "day",
        "know", "far", "lantern", "best", "without", "gain", "needs", "parted", "given", "settles", "more", "reading",
        "back", "kinds", "shows", "chalks", "odds", "sheet", "lose", "put", "cell", "copy", "tell", "greet", "as",
        "trace", "fault", "many"};

    private Calls() {
    }

    static long of(LoafGates x, int which, int[] a) {
        switch (NAMES[which]) {
            case "winter": return x.winter(a[0], a[1], a[2], a[3]);
            case "ofComer": return x.ofComer(a[0], a[1]);
            case "ofGate": return x.ofGate(a[0], a[1]);
            case "show": return x.show(a[0], a[1]);
            case "lead": return x.lead(a[0], a[1]);
            case "bake": return x.bake(a[0], a[1]);
            case "manner": return x.manner(a[0]);
            case "chalk": return x.chalk(a[0]);
            case "day": return x.day(a[0], a[1], a[2], a[3], a[4]);
            case "know": return x.know(a[0], a[1]);
            case "far": return x.far(a[0], a[1]);
            case "lantern": return x.lantern(a[0], a[1]);
            case "best": return x.best();
            case "without": return x.without(a[0]);
            case "gain": return x.gain(a[0]);
            case "needs": return x.needs(a[0]);
            case "parted": return x.parted(a[0]);
            case "given": return x.given();
            case "settles": return x.settles(a[0]);
            case "more": return x.more(a[0]);
            case "reading": return x.reading(a[0], a[1]);
            case "back": return x.back(a[0]);
            case "kinds": return x.kinds(a[0]);
            case "shows": return x.shows(a[0]);
            case "chalks": return x.chalks();
            case "odds": return x.odds(a[0], a[1]);
            case "sheet": return x.sheet(a[0], a[1], a[2]);
            case "lose": return x.lose(a[0]);
            case "put": return x.put(a[0], a[1], a[2]);
            case "cell": return x.cell(a[0], a[1], a[2]);
            case "copy": return x.copy(a[0], a[1], a[2], a[3], a[4]);
            case "tell": return x.tell(a[0]);
            case "greet": return x.greet(a[0]);
            case "as": return x.as(a[0], a[1]);
            case "trace": return x.trace();
            case "fault": return x.fault();
            default: return x.many(a[0]);
        }
    }

    static long of(Model x, int which, int[] a) {
        switch (NAMES[which]) {
            case "winter": return x.winter(a[0], a[1], a[2], a[3]);
            case "ofComer": return x.ofComer(a[0], a[1]);
            case "ofGate": return x.ofGate(a[0], a[1]);
            case "show": return x.show(a[0], a[1]);
            case "lead": return x.lead(a[0], a[1]);
            case "bake": return x.bake(a[0], a[1]);
            case "manner": return x.manner(a[0]);
            case "chalk": return x.chalk(a[0]);
            case "day": return x.day(a[0], a[1], a[2], a[3], a[4]);
            case "know": return x.know(a[0], a[1]);
            case "far": return x.far(a[0], a[1]);
            case "lantern": return x.lantern(a[0], a[1]);
            case "best": return x.best();
            case "without": return x.without(a[0]);
            case "gain": return x.gain(a[0]);
            case "needs": return x.needs(a[0]);
            case "parted": return x.parted(a[0]);
            case "given": return x.given();
            case "settles": return x.settles(a[0]);
            case "more": return x.more(a[0]);
            case "reading": return x.reading(a[0], a[1]);
            case "back": return x.back(a[0]);
            case "kinds": return x.kinds(a[0]);
            case "shows": return x.shows(a[0]);
            case "chalks": return x.chalks();
            case "odds": return x.odds(a[0], a[1]);
            case "sheet": return x.sheet(a[0], a[1], a[2]);
            case "lose": return x.lose(a[0]);
            case "put": return x.put(a[0], a[1], a[2]);
            case "cell": return x.cell(a[0], a[1], a[2]);
            case "copy": return x.copy(a[0], a[1], a[2], a[3], a[4]);
            case "tell": return x.tell(a[0]);
            case "greet": return x.greet(a[0]);
            case "as": return x.as(a[0], a[1]);
            case "trace": return x.trace;
            case "fault": return x.fault;
            default: return x.many(a[0]);
        }
    }

    static int number(String name) {
        for (int k = 0; k < NAMES.length; k++) if (NAMES[k].equals(name)) return k;
        throw new IllegalArgumentException(name);
    }
}
