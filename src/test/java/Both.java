/** A new object and a new plain model that are asked the same, call by call. */
final class Both {
    static final String[] NAMES = {"letters", "blank", "fault", "plan", "square", "thing", "about", "as",
        "stand", "put", "trade", "leans", "dip", "wet", "trades", "counter", "stones", "site", "late", "storm", "moss",
        "cows", "image", "restore", "count", "digest"};
    static final int[] PARAMETERS =
        {1, 0, 1, 0, 2, 3, 2, 2, 3, 2, 3, 2, 2, 1, 2, 3, 1, 1, 3, 1, 0, 4, 0, 0, 1, 0};
    static final int LETTERS = 0, BLANK = 1, FAULT = 2, PLAN = 3, SQUARE = 4, THING = 5, ABOUT = 6, AS = 7, STAND = 8,
        PUT = 9, TRADE = 10, LEANS = 11, DIP = 12, WET = 13, TRADES = 14, COUNTER = 15, STONES = 16, SITE = 17,
        LATE = 18, STORM = 19, MOSS = 20, COWS = 21, IMAGE = 22, RESTORE = 23, COUNT = 24, DIGEST = 25;

    final IslandThatLeans program = new IslandThatLeans();
    final PlainModel model = new PlainModel();
    private final String of;
    private int calls;

    Both(String of) {
        this.of = of;
    }

    /** How many calls have been asked since both were made. */
    int calls() {
        return calls;
    }

    /** Asks both, says where they differ, and tells what the program answered. */
    long ask(int method, long... numbers) {
        long a = numbers.length > 0 ? numbers[0] : 0;
        int b = numbers.length > 1 ? (int) numbers[1] : 0;
        int c = numbers.length > 2 ? (int) numbers[2] : 0;
        int d = numbers.length > 3 ? (int) numbers[3] : 0;
        calls++;
        long got = answer(program, method, a, b, c, d);
        long want = answer(model, method, a, b, c, d);
        Due.is(of + ", call " + calls + ": " + told(method, numbers), got, want);
        return got;
    }

    private static String told(int method, long... numbers) {
        StringBuilder text = new StringBuilder(NAMES[method]).append('(');
        for (int i = 0; i < PARAMETERS[method]; i++) {
            text.append(i > 0 ? ", " : "").append(i < numbers.length ? numbers[i] : 0);
        }
        return text.append(')').toString();
    }

    static long answer(IslandThatLeans x, int method, long w, int b, int c, int d) {
        int a = (int) w;
        switch (method) {
            case LETTERS: return x.letters(w);
            case BLANK: return x.blank();
            case FAULT: return x.fault(a);
            case PLAN: return x.plan();
            case SQUARE: return x.square(a, b);
            case THING: return x.thing(a, b, c);
            case ABOUT: return x.about(a, b);
            case AS: return x.as(a, b);
            case STAND: return x.stand(a, b, c);
            case PUT: return x.put(a, b);
            case TRADE: return x.trade(a, b, c);
            case LEANS: return x.leans(a, b);
            case DIP: return x.dip(a, b);
            case WET: return x.wet(a);
            case TRADES: return x.trades(a, b);
            case COUNTER: return x.counter(a, b, c);
            case STONES: return x.stones(a);
            case SITE: return x.site(a);
            case LATE: return x.late(a, b, c);
            case STORM: return x.storm(a);
            case MOSS: return x.moss();
            case COWS: return x.cows(a, b, c, d);
            case IMAGE: return x.image();
            case RESTORE: return x.restore();
            case COUNT: return x.count(a);
            default: return x.digest();
        }
    }

    static long answer(PlainModel x, int method, long w, int b, int c, int d) {
        int a = (int) w;
        switch (method) {
            case LETTERS: return x.letters(w);
            case BLANK: return x.blank();
            case FAULT: return x.fault(a);
            case PLAN: return x.plan();
            case SQUARE: return x.square(a, b);
            case THING: return x.thing(a, b, c);
            case ABOUT: return x.about(a, b);
            case AS: return x.as(a, b);
            case STAND: return x.stand(a, b, c);
            case PUT: return x.put(a, b);
            case TRADE: return x.trade(a, b, c);
            case LEANS: return x.leans(a, b);
            case DIP: return x.dip(a, b);
            case WET: return x.wet(a);
            case TRADES: return x.trades(a, b);
            case COUNTER: return x.counter(a, b, c);
            case STONES: return x.stones(a);
            case SITE: return x.site(a);
            case LATE: return x.late(a, b, c);
            case STORM: return x.storm(a);
            case MOSS: return x.moss();
            case COWS: return x.cows(a, b, c, d);
            case IMAGE: return x.image();
            case RESTORE: return x.restore();
            case COUNT: return x.count(a);
            default: return x.digest();
        }
    }
}
