/**
 * Calls in every order on one object, up to the 512th: each call behind each other one in states that differ
 * in what came before, and objects that are used for all of their 512 calls.
 */
public final class AnyOrderTest {
    private static final int MOST_CALLS = 512;
    private static final int STATE = IslandThatLeans.STATE;
    private static final int NONE = IslandThatLeans.NONE;
    private static final int FULL = IslandThatLeans.FULL;

    private static final String[] STATES = {"a new object", "letters that are no plan", "a full page and no plan",
        "a plan on the page", "a plan alone", "things and a way", "a second plan behind things and an image",
        "restored", "things and a full page", "things and no way", "a plan, things and a plan on the page",
        "all but one done", "all done", "seven people"};
    private static final String[] PLANS = {"1./..", "21./..1", "1.../2..9", ".1./.../1.1", "1.1.1./2.2.2./......"};
    private static final String[] WAYS = {"e", "s", "es", "nwse", "eeww", "ewewewe", "snsnsns", "eeeeeee", "x"};

    private static long seed;

    public static void main(String[] args) {
        eachBehindEachOther();
        livesOf512Calls();
        each512thCall();
        cyclesOfPlansThingsAndImages();
        donesCountOnThrough512Calls();
        pageFullEmptyAndNoPlan();
        planBehindAll();
        restoreBehindAll();
        Due.end();
    }

    /** A number from 0 to many - 1, the same ones in each run of the test. */
    private static int draw(int many) {
        seed = seed * 6364136223846793005L + 1442695040888963407L;
        return (int) ((seed >>> 33) % many);
    }

    private static void write(Both both, String text) {
        for (int i = 0; i < text.length(); i += 8) {
            both.ask(Both.LETTERS, Due.packed(text.substring(i, Math.min(i + 8, text.length()))));
        }
    }

    private static void planned(Both both, int plan) {
        both.ask(Both.BLANK);
        write(both, PLANS[plan]);
        both.ask(Both.PLAN);
    }

    private static void peopled(Both both, int things) {
        int squares = both.model.count(0);
        for (int number = 0; number < things; number++) {
            both.ask(Both.THING, (number + 1) % 5, 3 + 7 * number, number % squares);
            both.ask(Both.STAND, number, number, squares - 1);
        }
    }

    private static Both inState(int state) {
        Both both = new Both(STATES[state]);
        switch (state) {
            case 0:
                break;
            case 1:
                write(both, "1./.");
                break;
            case 2:
                write(both, "1./..".repeat(8));
                break;
            case 3:
                write(both, PLANS[1]);
                break;
            case 4:
                planned(both, 1);
                break;
            case 5:
                planned(both, 1);
                peopled(both, 5);
                write(both, "es");
                break;
            case 6:
                planned(both, 4);
                peopled(both, 8);
                both.ask(Both.IMAGE);
                planned(both, 0);
                write(both, "e");
                break;
            case 7:
                planned(both, 1);
                peopled(both, 3);
                both.ask(Both.IMAGE);
                peopled(both, 5);
                both.ask(Both.PUT, 0, 5);
                both.ask(Both.STAND, 2, 4, 1);
                both.ask(Both.RESTORE);
                break;
            case 8:
                planned(both, 3);
                peopled(both, 6);
                write(both, "news".repeat(10));
                break;
            case 9:
                planned(both, 2);
                peopled(both, 8);
                write(both, "ex");
                break;
            case 10:
                planned(both, 3);
                peopled(both, 4);
                both.ask(Both.IMAGE);
                write(both, PLANS[0]);
                break;
            case 11:
                done(both, 29, 19);
                break;
            case 12:
                done(both, 30, 20);
                break;
            default:
                planned(both, 4);
                for (int number = 0; number < 7; number++) {
                    both.ask(Both.THING, 3 + number % 2, 1 + number, 2 * number);
                }
                both.ask(Both.THING, 1, 30, 5);
        }
        return both;
    }

    private static void done(Both both, int trades, int stones) {
        planned(both, 1);
        peopled(both, 4);
        for (int time = 0; time < trades; time++) {
            both.ask(Both.TRADES, time % 8, time % 2);
        }
        for (int time = 0; time < stones; time++) {
            both.ask(Both.STONES, time % 5);
        }
    }

    private static int square(Both both) {
        return draw(Math.max(1, both.model.count(0)) + (draw(12) == 0 ? 1 : 0));
    }

    private static int thing(Both both) {
        return draw(Math.max(1, both.model.count(2)) + (draw(12) == 0 ? 1 : 0));
    }

    private static int placeOr(int few) {
        return draw(2) == 0 ? draw(few) : 10 + draw(8);
    }

    private static long drawnLetters() {
        String text = draw(2) == 0 ? WAYS[draw(WAYS.length)] : draw(2) == 0 ? PLANS[0] : PLANS[1];
        return Due.packed(text);
    }

    /** A call with numbers as they would be told in good use; here and there one that is not. */
    private static long[] drawnNumbers(Both both, int method) {
        int quarter = draw(30) == 0 ? 8 : draw(8);
        switch (method) {
            case Both.LETTERS:
                return new long[] {drawnLetters()};
            case Both.FAULT:
                return new long[] {draw(2)};
            case Both.SQUARE:
                return new long[] {square(both), draw(3)};
            case Both.THING:
                return new long[] {draw(5), 1 + draw(draw(2) == 0 ? 99 : 20), square(both)};
            case Both.ABOUT:
                return new long[] {thing(both), placeOr(3)};
            case Both.AS:
                return new long[] {thing(both), draw(5)};
            case Both.STAND:
                return new long[] {thing(both), quarter, square(both)};
            case Both.PUT:
                return new long[] {thing(both), square(both)};
            case Both.TRADE:
                return new long[] {thing(both), thing(both), quarter};
            case Both.LEANS:
                return new long[] {quarter, draw(2)};
            case Both.DIP:
                return new long[] {square(both), quarter};
            case Both.TRADES:
                return new long[] {quarter, placeOr(2)};
            case Both.COUNTER:
                return new long[] {square(both), 1 + draw(99), draw(2)};
            case Both.STONES:
                return new long[] {draw(5)};
            case Both.SITE:
                return new long[] {1 + draw(99)};
            case Both.LATE:
                return new long[] {quarter, both.model.wet(draw(8)), draw(3)};
            case Both.COWS:
                return new long[] {quarter, 1 + draw(20), draw(Integer.MAX_VALUE), placeOr(2)};
            case Both.COUNT:
                return new long[] {draw(8)};
            default:
                return new long[] {quarter};
        }
    }

    private static void drawnCall(Both both, int method) {
        both.ask(method, drawnNumbers(both, method));
    }

    /** What an object tells of all, and behind restore() again: an image is seen by that alone. */
    private static void toldOfAll(Both both) {
        both.ask(Both.DIGEST);
        both.ask(Both.RESTORE);
        both.ask(Both.DIGEST);
    }

    private static void eachBehindEachOther() {
        seed = 1;
        for (int state = 0; state < STATES.length; state++) {
            for (int first = 0; first <= Both.DIGEST; first++) {
                for (int second = 0; second <= Both.DIGEST; second++) {
                    Both both = inState(state);
                    drawnCall(both, first);
                    drawnCall(both, second);
                    toldOfAll(both);
                }
            }
        }
    }

    /** Some calls towards one end, so that the states that need many calls come, too. */
    private static void someCalls(Both both) {
        switch (draw(14)) {
            case 0:
                if (draw(3) == 0) {
                    planned(both, draw(PLANS.length));
                }
                break;
            case 1:
                both.ask(Both.BLANK);
                write(both, WAYS[draw(WAYS.length)]);
                drawnCall(both, Both.COUNTER);
                break;
            case 2:
                while (both.ask(Both.LETTERS, drawnLetters()) != FULL) {
                    both.ask(Both.FAULT, 1);
                }
                break;
            case 3:
                drawnCall(both, Both.IMAGE);
                drawnCall(both, Both.THING);
                drawnCall(both, Both.STAND);
                break;
            case 4:
                both.ask(Both.DIGEST);
                break;
            case 5:
            case 6:
                drawnCall(both, draw(2) == 0 ? Both.THING : Both.STAND);
                break;
            default:
                drawnCall(both, draw(Both.DIGEST));
        }
    }

    /** So many calls that some twenty more still come before the last. */
    private static Both nearItsEnd(int life) {
        seed = 7919L * life + 3;
        Both both = new Both("life " + life);
        if (life % 4 != 0) {
            planned(both, life % PLANS.length);
        }
        while (both.calls() < MOST_CALLS - 40) {
            someCalls(both);
        }
        return both;
    }

    private static void livesOf512Calls() {
        for (int life = 0; life < 60; life++) {
            Both both = nearItsEnd(life);
            while (both.calls() < MOST_CALLS - 3) {
                drawnCall(both, draw(Both.DIGEST));
            }
            toldOfAll(both);
            Due.is("calls of a life", both.calls(), MOST_CALLS);
        }
    }

    // "An object is used for at most 512 calls": the 512th is still answered, whichever it is.
    private static void each512thCall() {
        for (int last = 0; last <= Both.DIGEST; last++) {
            for (int life = 100; life < 104; life++) {
                Both both = nearItsEnd(life);
                while (both.calls() < MOST_CALLS - 1) {
                    drawnCall(both, draw(Both.DIGEST));
                }
                drawnCall(both, last);
                Due.is("calls of a life", both.calls(), MOST_CALLS);
            }
        }
    }

    // 64 times eight calls, each time the same: a plan leaves nothing of what came before it.
    private static void cyclesOfPlansThingsAndImages() {
        IslandThatLeans x = new IslandThatLeans();
        for (int cycle = 0; cycle < MOST_CALLS / 8; cycle++) {
            String of = "cycle " + cycle + ": ";
            Due.is(of + "letters()", x.letters(Due.packed("1./..")), 5);
            Due.is(of + "plan()", x.plan(), 4);
            Due.is(of + "restore()", x.restore(), STATE);
            Due.is(of + "thing(1, 30, 0)", x.thing(1, 30, 0), 0);
            Due.is(of + "image()", x.image(), 1);
            Due.is(of + "put(0, 3)", x.put(0, 3), 0);
            Due.is(of + "restore()", x.restore(), 1);
            Due.is(of + "wet(0)", x.wet(0), 1);
        }
    }

    // "30 times ever", "20 times ever": with plans, images and restore() between, up to the 512th call.
    private static void donesCountOnThrough512Calls() {
        IslandThatLeans x = new IslandThatLeans();
        for (int cycle = 0; cycle < MOST_CALLS / 8; cycle++) {
            String of = "cycle " + cycle + ": ";
            Due.is(of + "letters()", x.letters(Due.packed("1./..")), 5);
            Due.is(of + "plan()", x.plan(), 4);
            Due.is(of + "thing(3, 30, 0)", x.thing(3, 30, 0), 0);
            Due.is(of + "image()", x.image(), 1);
            Due.is(of + "trades(0, 0)", x.trades(0, 0), cycle < 30 ? 1 : STATE);
            Due.is(of + "restore()", x.restore(), 1);
            Due.is(of + "stones(0)", x.stones(0), cycle < 20 ? NONE : STATE);
            Due.is(of + "count()", x.count(6 + cycle % 2), Math.min(cycle + 1, cycle % 2 == 0 ? 30 : 20));
        }
    }

    private static void pageFullEmptyAndNoPlan() {
        IslandThatLeans x = Due.lettered("e".repeat(40));
        Due.is("letters() behind 40", x.letters('e'), FULL);
        Due.is("letters(0) behind 40", x.letters(0), 40);
        Due.is("plan() of 40", x.plan(), STATE);
        Due.is("counter() without a plan", x.counter(0, 1, 0), IslandThatLeans.UNKNOWN);
        Due.is("blank()", x.blank(), 40);
        Due.is("plan() of none", x.plan(), STATE);
        Due.is("letters()", x.letters(Due.packed("1./..")), 5);
        Due.is("plan()", x.plan(), 4);
        Due.is("counter() with an empty page", x.counter(0, 1, 0), STATE);
        Due.is("letters()", x.letters('e'), 1);
        Due.is("counter() with a way", x.counter(0, 1, 0), 1);
        Due.write(x, "e".repeat(39));
        Due.is("counter() with a full page", x.counter(0, 1, 0), STATE);
        Due.is("letters() behind 40, with a plan", x.letters('e'), FULL);
        Due.is("site() with a full page", x.site(1), 0);
    }

    private static void planBehindAll() {
        IslandThatLeans x = Due.planned("1./..");
        x.thing(3, 30, 0);
        x.thing(1, 20, 0);
        x.thing(2, 5, 1);
        x.stand(0, 4, 3);
        x.image();
        Due.is("trades()", x.trades(0, 0), 1);
        Due.is("stones()", x.stones(0), 1);
        Due.write(x, "../9.");
        Due.is("plan()", x.plan(), 4);
        int[] counts = {4, 1, 0, 0, 0, 2, 1, 1};
        for (int what = 0; what < counts.length; what++) {
            Due.is("count(" + what + ") behind plan()", x.count(what), counts[what]);
        }
        Due.is("about() behind plan()", x.about(0, 0), IslandThatLeans.UNKNOWN);
        Due.is("put() behind plan()", x.put(1, 0), IslandThatLeans.UNKNOWN);
        Due.is("leans() behind plan()", x.leans(0, 0), 0);
        Due.is("wet() behind plan()", x.wet(0), 0);
        Due.is("moss() behind plan()", x.moss(), NONE);
        Due.is("storm() behind plan()", x.storm(0), 0);
        Due.is("late() behind plan()", x.late(4, 0, 0), 1);
        Due.is("cows() behind plan()", x.cows(0, 9, 5, 12), NONE);
        Due.is("cows() draws nothing behind plan()", x.cows(0, 9, 5, 1), 5);
        Due.is("restore() behind plan()", x.restore(), STATE);
        Due.is("stones() behind plan()", x.stones(0), 0);
        Due.is("trades() behind plan()", x.trades(0, 10), NONE);
        Due.is("thing() behind plan()", x.thing(4, 1, 2), 0);
        Due.is("where it stands in quarter 4", x.about(0, 14), 2);
        Due.is("done behind plan()", x.count(6) + x.count(7), 4);
    }

    private static void restoreBehindAll() {
        IslandThatLeans x = Due.planned("1./..");
        x.thing(3, 30, 0);
        x.thing(1, 20, 3);
        x.image();
        x.thing(1, 99, 0);
        x.stand(0, 0, 3);
        Due.write(x, "e");
        Due.is("wet() ahead of restore()", x.wet(0), 1);
        Due.is("restore()", x.restore(), 2);
        Due.is("wet() behind restore()", x.wet(0), 0);
        Due.is("stones() behind restore()", x.stones(0), 0);
        Due.is("trades() behind restore()", x.trades(0, 10), 0);
        Due.is("moss() behind restore()", x.moss(), NONE);
        Due.is("late() behind restore()", x.late(1, 0, 0), 2);
        Due.is("counter() behind restore()", x.counter(0, 5, 0), 1);
        Due.is("the third thing behind restore()", x.about(2, 0), IslandThatLeans.UNKNOWN);
        Due.is("thing() behind restore()", x.thing(2, 9, 1), 2);
        Due.is("its kind", x.about(2, 0), 2);
        Due.is("letters behind restore()", x.count(4), 1);
    }
}
