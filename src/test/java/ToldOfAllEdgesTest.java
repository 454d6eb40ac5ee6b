import java.math.BigInteger;
import java.util.ArrayList;
import java.util.List;

/** Promises 24 to 27: a test for each sentence of the document that names a boundary. */
public final class ToldOfAllEdgesTest {
    private static final int NONE = IslandThatLeans.NONE;
    private static final int UNKNOWN = IslandThatLeans.UNKNOWN;
    private static final int OUTSIDE = IslandThatLeans.OUTSIDE;
    private static final int STATE = IslandThatLeans.STATE;
    private static final int[] FAR = {-1, Integer.MIN_VALUE, Integer.MAX_VALUE, 64, 1 << 16};

    public static void main(String[] args) {
        imageWithoutAPlan();
        imageOfNoneAndOfEight();
        imageTheLatest();
        imageChangesNothing();
        restoreWhereNoneWasKept();
        restoreBehindAnotherPlan();
        restoreBehindAPlanOfTheSameText();
        restoreBehindNoPlan();
        restoreOfAnImageKeptBehindAPlan();
        restoreOfThingsThatCameSince();
        restoreOfNoThings();
        restoreWhereAllStand();
        restoreTwice();
        restoreLeavesTheRest();
        countWithoutAPlan();
        countOutside();
        countOfEach();
        countOfPeople();
        countOfPlansRead();
        digestWithoutAPlan();
        digestWithAPlan();
        digestOfALargeDay();
        digestOfSiteFor10();
        digestAsLongsWrapping();
        digestOfQuarter4();
        digestOfNones();
        digestOfThePage();
        digestIsNoTradesAndNoStones();
        Due.end();
    }

    // Promise 24: "STATE: there is no PLAN."
    private static void imageWithoutAPlan() {
        IslandThatLeans x = new IslandThatLeans();
        Due.is("image() of a new object", x.image(), STATE);
        Due.write(x, "../.");
        x.plan();
        Due.is("image() behind no plan", x.image(), STATE);
        Due.is("restore() behind both", x.restore(), STATE);
        Due.write(x, ".");
        x.plan();
        Due.is("restore(): none was kept", x.restore(), STATE);
        Due.is("image() behind a plan", x.image(), 0);
    }

    // "how many THINGS".
    private static void imageOfNoneAndOfEight() {
        IslandThatLeans x = Due.planned("../..");
        for (int many = 0; many < 8; many++) {
            Due.is("image() of " + many, x.image(), many);
            x.thing(many % 5, 1, 0);
        }
        Due.is("image() of eight", x.image(), 8);
        x.thing(0, 1, 0);
        Due.is("image() behind a ninth", x.image(), 8);
        Due.is("restore() of eight", x.restore(), 8);
    }

    // "(one; the latest)".
    private static void imageTheLatest() {
        IslandThatLeans x = Due.planned("../..");
        x.thing(1, 1, 0);
        x.thing(3, 1, 0);
        x.image();
        x.put(0, 1);
        x.stand(1, 7, 1);
        x.thing(2, 1, 1);
        x.image();
        x.put(0, 2);
        x.stand(1, 7, 2);
        x.thing(4, 1, 2);
        Due.is("restore()", x.restore(), 3);
        Due.is("where 0 is", x.about(0, 10), 1);
        Due.is("where 1 stands in 7", x.about(1, 17), 1);
        Due.is("where 1 stands in 6", x.about(1, 16), 0);
        Due.is("restore(): the earlier one is gone", x.restore(), 3);
        Due.is("where 0 is still", x.about(0, 10), 1);
    }

    private static void imageChangesNothing() {
        IslandThatLeans x = Due.planned("1./.2");
        x.thing(3, 40, 0);
        Due.write(x, "ab");
        long before = x.digest();
        Due.is("image()", x.image(), 1);
        Due.is("digest() behind image()", x.digest(), before);
    }

    // Promise 25: "STATE: none was kept".
    private static void restoreWhereNoneWasKept() {
        IslandThatLeans bare = new IslandThatLeans();
        Due.is("restore() of a new object", bare.restore(), STATE);
        Due.is("things behind STATE", bare.count(2), 0);
        IslandThatLeans x = Due.planned("1./..");
        Due.is("restore() behind a plan", x.restore(), STATE);
        x.thing(3, 40, 0);
        long before = x.digest();
        Due.is("restore() behind a thing", x.restore(), STATE);
        Due.is("digest() behind STATE", x.digest(), before);
    }

    // "or a PLAN was read since".
    private static void restoreBehindAnotherPlan() {
        IslandThatLeans x = Due.planned("1./..");
        x.thing(3, 40, 0);
        x.image();
        Due.write(x, ".../..2/...");
        x.plan();
        Due.is("restore() behind another plan", x.restore(), STATE);
        Due.is("things", x.count(2), 0);
        x.thing(1, 5, 8);
        long before = x.digest();
        Due.is("restore() behind a thing", x.restore(), STATE);
        Due.is("digest() behind STATE", x.digest(), before);
        Due.is("where it is", x.about(0, 10), 8);
    }

    // "(of the same text, too)".
    private static void restoreBehindAPlanOfTheSameText() {
        IslandThatLeans x = Due.planned("1./..");
        x.thing(3, 40, 0);
        x.image();
        Due.write(x, "1./..");
        x.plan();
        Due.is("restore()", x.restore(), STATE);
        x.thing(3, 40, 0);
        Due.is("restore() behind the same thing", x.restore(), STATE);
    }

    // A PAGE that is no PLAN was not read as one.
    private static void restoreBehindNoPlan() {
        IslandThatLeans x = Due.planned("1./..");
        x.thing(1, 40, 0);
        x.image();
        x.put(0, 3);
        Due.write(x, "1./.");
        Due.is("plan()", x.plan(), STATE);
        Due.is("restore() behind no plan", x.restore(), 1);
        Due.is("where it is", x.about(0, 10), 0);
    }

    private static void restoreOfAnImageKeptBehindAPlan() {
        IslandThatLeans x = Due.planned("1./..");
        x.thing(3, 40, 0);
        x.thing(3, 40, 0);
        x.image();
        Due.write(x, ".../...");
        x.plan();
        x.thing(2, 7, 5);
        Due.is("image() behind another plan", x.image(), 1);
        x.put(0, 4);
        x.thing(2, 7, 5);
        Due.is("restore()", x.restore(), 1);
        Due.is("where it is", x.about(0, 10), 5);
        Due.is("its kind", x.about(0, 0), 2);
    }

    // "(those that come since are gone by restore())".
    private static void restoreOfThingsThatCameSince() {
        for (int kept = 0; kept < 8; kept++) {
            IslandThatLeans x = Due.planned("1./..");
            for (int number = 0; number < kept; number++) {
                x.thing(3, 10 + number, 0);
            }
            long before = x.digest();
            x.image();
            for (int number = kept; number < 8; number++) {
                x.thing(4, 50, 0);
            }
            Due.is("restore() to " + kept, x.restore(), kept);
            Due.is("things", x.count(2), kept);
            Due.is("people", x.count(3), kept);
            Due.is("the first that came since", x.about(kept, 0), UNKNOWN);
            Due.is("stand() of it", x.stand(kept, 0, 0), UNKNOWN);
            Due.is("the last that came since", x.about(7, 0), UNKNOWN);
            Due.is("digest()", x.digest(), before);
            Due.is("another comes", x.thing(1, 5, 2), kept);
            Due.is("its kind", x.about(kept, 0), 1);
            Due.is("what it weighs", x.about(kept, 2), 5);
            Due.is("where it is", x.about(kept, 17), 2);
        }
    }

    private static void restoreOfNoThings() {
        IslandThatLeans x = Due.planned("1./..");
        Due.is("image() of none", x.image(), 0);
        Due.is("restore() of none", x.restore(), 0);
        x.thing(4, 99, 0);
        Due.is("wet", x.wet(0), 1);
        Due.is("restore() of none behind a thing", x.restore(), 0);
        Due.is("dry", x.wet(0), 0);
        Due.is("leans", x.leans(0, 0), 0);
    }

    // "where all stand": in each QUARTER.
    private static void restoreWhereAllStand() {
        IslandThatLeans x = Due.planned(".../.../...");
        for (int number = 0; number < 8; number++) {
            x.thing(number < 5 ? 3 + number % 2 : number - 5, 1 + number, number);
        }
        for (int number = 0; number < 5; number++) {
            for (int quarter = 0; quarter < 8; quarter++) {
                x.stand(number, quarter, (number + quarter) % 9);
            }
        }
        x.image();
        for (int number = 0; number < 8; number++) {
            for (int quarter = 0; quarter < 8; quarter++) {
                x.stand(number, quarter, 8);
            }
            x.put(number, 8);
        }
        x.trade(0, 1, 0);
        Due.is("restore()", x.restore(), 8);
        for (int number = 0; number < 8; number++) {
            for (int quarter = 0; quarter < 8; quarter++) {
                Due.is("where " + number + " stands in " + quarter, x.about(number, 10 + quarter),
                        number < 5 ? (number + quarter) % 9 : number);
            }
        }
    }

    private static void restoreTwice() {
        IslandThatLeans x = Due.planned("1./..");
        x.thing(1, 5, 0);
        x.image();
        for (int time = 0; time < 3; time++) {
            x.put(0, 3);
            x.thing(2, 5, 1);
            Due.is("restore()", x.restore(), 1);
            Due.is("where it is", x.about(0, 10), 0);
        }
        Due.is("restore() at once", x.restore(), 1);
    }

    // An IMAGE keeps THINGS alone: THE PAGE and what was done stay.
    private static void restoreLeavesTheRest() {
        IslandThatLeans x = Due.planned("1./..");
        Due.write(x, "ab");
        x.image();
        x.trades(0, 0);
        x.stones(0);
        Due.write(x, "cd");
        x.restore();
        Due.is("letters", x.count(4), 4);
        Due.is("plans read", x.count(5), 1);
        Due.is("trades() done", x.count(6), 1);
        Due.is("stones() done", x.count(7), 1);
        x.blank();
        x.restore();
        Due.is("no letters", x.count(4), 0);
    }

    // Promise 26.
    private static void countWithoutAPlan() {
        IslandThatLeans x = new IslandThatLeans();
        for (int what = 0; what < 8; what++) {
            Due.is("count(" + what + ")", x.count(what), 0);
        }
        Due.write(x, "11/11");
        Due.is("no squares yet", x.count(0), 0);
        Due.is("no doors yet", x.count(1), 0);
        Due.is("five letters", x.count(4), 5);
    }

    // "OUTSIDE": below 0, above 7.
    private static void countOutside() {
        for (IslandThatLeans x : List.of(new IslandThatLeans(), Due.planned("1./.."))) {
            Due.is("count(8)", x.count(8), OUTSIDE);
            for (int what : FAR) {
                Due.is("count(" + what + ")", x.count(what), OUTSIDE);
            }
        }
    }

    private static void countOfEach() {
        IslandThatLeans x = Due.planned(Due.page(5, 6, '9'));
        for (int number = 0; number < 8; number++) {
            x.thing(3, 1, number);
        }
        Due.write(x, "n".repeat(40));
        int[] most = {30, 30, 8, 8, 40, 1, 0, 0};
        for (int what = 0; what < 8; what++) {
            Due.is("count(" + what + ") at its most", x.count(what), most[what]);
        }
        IslandThatLeans y = Due.planned("../..");
        Due.is("no doors", y.count(1), 0);
    }

    // "3 PEOPLE": a FAT is one.
    private static void countOfPeople() {
        IslandThatLeans x = Due.planned("../..");
        int[] people = {0, 0, 0, 1, 2};
        for (int kind = 0; kind < 5; kind++) {
            x.thing(kind, 1, 0);
            Due.is("people with kind " + kind, x.count(3), people[kind]);
        }
    }

    // "5 how often a PLAN was read".
    private static void countOfPlansRead() {
        IslandThatLeans x = new IslandThatLeans();
        for (int read = 1; read <= 40; read++) {
            Due.write(x, "../..");
            x.plan();
            x.plan();
            Due.is("plans read", x.count(5), read);
        }
        x.image();
        x.restore();
        Due.is("plans read, behind restore()", x.count(5), 40);
    }

    /** What digest() is made of, by the other calls, as the document tells it; no number wraps here. */
    private static List<Long> numbersOf(IslandThatLeans x, String page) {
        List<Long> numbers = new ArrayList<>();
        for (int square = 0; square < x.count(0); square++) {
            numbers.add((long) x.square(square, 0));
        }
        for (int thing = 0; thing < x.count(2); thing++) {
            for (int what = 0; what < 18; what += what == 2 ? 8 : 1) {
                numbers.add((long) x.about(thing, what));
            }
        }
        for (int quarter = 0; quarter < 8; quarter++) {
            numbers.add((long) x.leans(quarter, 0));
            numbers.add((long) x.leans(quarter, 1));
            numbers.add((long) x.wet(quarter));
        }
        if (x.count(0) > 0) {
            numbers.add((long) x.site(10));
            numbers.add((long) x.moss());
            for (int what = 0; what < 3; what++) {
                numbers.add((long) x.late(4, x.wet(4), what));
            }
            numbers.add((long) x.storm(4));
        }
        for (char letter : page.toCharArray()) {
            numbers.add((long) letter);
        }
        for (int what = 0; what < 8; what++) {
            numbers.add((long) x.count(what));
        }
        return numbers;
    }

    /** h by whole numbers without an end, and what a long keeps of it. */
    private static long wrapped(List<Long> numbers) {
        BigInteger h = BigInteger.valueOf(613);
        for (long number : numbers) {
            h = h.multiply(BigInteger.valueOf(31)).add(BigInteger.valueOf(number));
        }
        return h.longValue();
    }

    private static void digestIs(String of, IslandThatLeans x, String page) {
        Due.is("digest() " + of, x.digest(), wrapped(numbersOf(x, page)));
    }

    // Promise 27: "with a PLAN SITE for 10 ...": without one there is nothing between WET and letters.
    private static void digestWithoutAPlan() {
        IslandThatLeans x = new IslandThatLeans();
        Due.is("digest() of a new object", x.digest(), Due.folded(new long[24 + 8]));
        digestIs("of a new object", x, "");
        Due.write(x, "1./..");
        digestIs("of a plan that is not read", x, "1./..");
    }

    private static void digestWithAPlan() {
        IslandThatLeans x = Due.planned("1./..");
        // Four heights, eight quarters, SITE, MOSS, one set of nobody, nobody, nobody, STORM, counts.
        long[] due = new long[4 + 24 + 6 + 8];
        due[0] = 1;
        due[4 + 24 + 1] = NONE;
        due[4 + 24 + 2] = 1;
        due[4 + 24 + 6] = 4;
        due[4 + 24 + 6 + 1] = 1;
        due[4 + 24 + 6 + 5] = 1;
        Due.is("digest() of a plan alone", x.digest(), Due.folded(due));
        digestIs("of a plan alone", x, "");
    }

    private static void digestOfALargeDay() {
        IslandThatLeans x = Due.planned(Due.page(5, 6, '9'));
        for (int number = 0; number < 8; number++) {
            x.thing(number % 5, 99 - number, 29 - number);
            x.stand(number, number, 0);
        }
        Due.write(x, "nesw".repeat(10));
        x.trades(0, 0);
        x.stones(0);
        x.stones(0);
        digestIs("of eight things and 40 letters", x, "nesw".repeat(10));
        IslandThatLeans y = Due.planned("1.2.3./.4.5.6");
        for (int number = 0; number < 8; number++) {
            y.thing(3 + number % 2, 99, number);
            y.stand(number, 3, 11);
            y.stand(number, 4, 0);
        }
        digestIs("of eight people", y, "");
    }

    // "SITE for 10": one of 9 or 11 would stand elsewhere.
    private static void digestOfSiteFor10() {
        IslandThatLeans x = Due.planned("1./..");
        x.thing(0, 15, 0);
        Due.is("site(9) beside 30", x.site(9), 0);
        Due.is("site(10) beside 30", x.site(10), 1);
        digestIs("beside 30", x, "");
        IslandThatLeans y = Due.planned("1./..");
        y.thing(0, 14, 0);
        Due.is("site(10) beside 28", y.site(10), 0);
        Due.is("site(11) beside 28", y.site(11), 1);
        digestIs("beside 28", y, "");
    }

    // "(as longs, wrapping)".
    private static void digestAsLongsWrapping() {
        IslandThatLeans x = new IslandThatLeans();
        // 613 times 31 to the 32 is far above a long.
        BigInteger whole = BigInteger.valueOf(613).multiply(BigInteger.valueOf(31).pow(32));
        Due.holds("it wraps", whole.bitLength() > 64);
        Due.is("digest() of a new object", x.digest(), whole.longValue());
        x.letters(126L);
        BigInteger more = whole.multiply(BigInteger.valueOf(31));
        // The letter is followed by eight numbers, the fifth of which is 1 now.
        more = more.add(BigInteger.valueOf(126).multiply(BigInteger.valueOf(31).pow(8)));
        more = more.add(BigInteger.valueOf(31).pow(3));
        Due.is("digest() with a letter", x.digest(), more.longValue());
    }

    // "what late() tells of QUARTER 4 and the DOORS that are WET then ..., STORM of QUARTER 4".
    private static void digestOfQuarter4() {
        for (int quarter = 0; quarter < 8; quarter++) {
            IslandThatLeans x = Due.planned("1./..");
            x.thing(3, 30, 3);
            x.thing(4, 14, 1);
            x.stand(0, quarter, 0);
            x.stand(1, quarter, 0);
            digestIs("with two by the door in " + quarter, x, "");
        }
    }

    private static void digestOfNones() {
        IslandThatLeans x = Due.planned("1./..");
        x.thing(0, 99, 0);
        Due.is("STORM is none", x.storm(4), NONE);
        digestIs("of no storm", x, "");
        IslandThatLeans y = Due.planned("9./..");
        y.thing(1, 1, 0);
        Due.is("MOSS is none", y.moss(), NONE);
        digestIs("of no moss", y, "");
    }

    // "letters of THE PAGE, each by its code".
    private static void digestOfThePage() {
        StringBuilder page = new StringBuilder();
        for (int code = 1; code <= 126; code += 5) {
            page.append((char) code);
        }
        digestIs("of letters", Due.lettered(page.toString()), page.toString());
        IslandThatLeans x = Due.planned("1./..");
        Due.write(x, page.toString());
        digestIs("of letters with a plan", x, page.toString());
        x.blank();
        digestIs("behind blank()", x, "");
    }

    private static void digestIsNoTradesAndNoStones() {
        IslandThatLeans x = Due.planned("1./..");
        x.thing(3, 30, 0);
        long first = x.digest();
        for (int time = 0; time < 40; time++) {
            Due.is("digest() again", x.digest(), first);
        }
        Due.is("trades() done", x.count(6), 0);
        Due.is("stones() done", x.count(7), 0);
        Due.is("trades()", x.trades(0, 0), 1);
        Due.is("stones()", x.stones(0), NONE);
    }
}
