/** Promises 16 to 23: trades, counter, stones, site, late, storm, moss, cows. */
public final class WouldBeTest {
    private static final int NONE = IslandThatLeans.NONE;
    private static final int UNKNOWN = IslandThatLeans.UNKNOWN;
    private static final int OUTSIDE = IslandThatLeans.OUTSIDE;
    private static final int STATE = IslandThatLeans.STATE;

    public static void main(String[] args) {
        promise16Trades();
        promise16TradesOfLikeOnes();
        promise16FewestElsewhere();
        promise16TradesInOneQuarter();
        promise16TradesRefused();
        promise16TradesLimit();
        promise17Counter();
        promise17CounterStaysAtItsEnd();
        promise17CounterRefused();
        promise18Stones();
        promise18TwoStones();
        promise18StonesRefused();
        promise19Site();
        promise20Late();
        promise20LateSets();
        promise20LateRefused();
        promise21Storm();
        promise21StormRefused();
        promise22Moss();
        promise23Cows();
        promise23TwoCows();
        promise23CowsRefused();
        Due.end();
    }

    /** EAST -1, 1 and SOUTH -1, 1: a weight at 0 dips its door twice what it weighs, one at 3 lifts it so. */
    private static IslandThatLeans small() {
        return Due.planned("1./..");
    }

    private static void answers(IslandThatLeans x, int[] want, String of) {
        for (int what = 0; what < want.length; what++) {
            Due.is("stones(" + what + ") " + of, x.stones(what), want[what]);
        }
    }

    private static void promise16Trades() {
        IslandThatLeans x = small();
        Due.is("no people", x.trades(0, 0), 0);
        Due.is("no people elsewhere", x.trades(0, 1), 0);
        Due.is("thing 0 is not there", x.trades(0, 10), NONE);
        x.thing(3, 60, 0);
        x.thing(0, 1, 1);
        x.thing(4, 1, 3);
        Due.is("wet doors now", x.wet(0), 1);
        Due.is("wet doors by trades", x.trades(0, 0), 0);
        Due.is("how many elsewhere", x.trades(0, 1), 2);
        Due.is("where person 0 stands", x.trades(0, 10), 3);
        Due.is("thing 1 is no person", x.trades(0, 11), NONE);
        Due.is("where fat 2 stands", x.trades(0, 12), 0);
        Due.is("thing 3 is not there", x.trades(0, 13), NONE);
        Due.is("thing 7 is not there", x.trades(0, 17), NONE);
        Due.is("nobody goes", x.about(0, 10), 0);
        Due.is("trades() done", x.count(6), 10);
    }

    private static void promise16TradesOfLikeOnes() {
        IslandThatLeans x = small();
        x.thing(3, 60, 0);
        x.thing(3, 1, 3);
        x.thing(3, 1, 3);
        // Person 0 takes the square of 1; then 1 takes that of 0 rather than that of 2.
        Due.is("elsewhere", x.trades(0, 1), 2);
        Due.is("where 0 stands", x.trades(0, 10), 3);
        Due.is("where 1 stands", x.trades(0, 11), 0);
        Due.is("where 2 stands", x.trades(0, 12), 3);
        IslandThatLeans y = small();
        y.thing(3, 60, 0);
        y.thing(3, 1, 3);
        y.thing(3, 1, 1);
        // Whose square counts, not its number: 1 stands in square 3, 2 in square 1.
        Due.is("where 0 stands", y.trades(0, 10), 3);
        Due.is("where 1 stands", y.trades(0, 11), 0);
        Due.is("where 2 stands", y.trades(0, 12), 1);
    }

    private static void promise16FewestElsewhere() {
        IslandThatLeans x = small();
        x.thing(3, 5, 0);
        x.thing(3, 5, 0);
        x.thing(3, 5, 3);
        Due.is("dry as it is", x.trades(0, 1), 0);
        Due.is("where 0 stays", x.trades(0, 10), 0);
        IslandThatLeans y = Due.planned("11/11");
        y.thing(3, 99, 0);
        y.thing(3, 98, 0);
        // Whatever they trade, they stand in square 0.
        Due.is("wet whatever they trade", y.trades(0, 0), 1);
        Due.is("nobody elsewhere", y.trades(0, 1), 0);
        // A round of three would dry the door as well, but two are fewer; of these two pairs
        // the first is the one by which person 0 keeps its own square.
        IslandThatLeans z = small();
        z.thing(3, 20, 1);
        z.thing(3, 60, 0);
        z.thing(3, 1, 3);
        Due.is("two rather than three", z.trades(0, 1), 2);
        Due.is("where 0 stays", z.trades(0, 10), 1);
        Due.is("where 1 stands", z.trades(0, 11), 3);
        Due.is("where 2 stands", z.trades(0, 12), 0);
    }

    private static void promise16TradesInOneQuarter() {
        IslandThatLeans x = small();
        x.thing(3, 60, 0);
        x.thing(3, 1, 3);
        x.stand(0, 5, 3);
        x.stand(1, 5, 2);
        Due.is("quarter 4 asks for a trade", x.trades(4, 1), 2);
        Due.is("quarter 5 asks for none", x.trades(5, 1), 0);
        Due.is("where 1 stands in quarter 5", x.trades(5, 11), 2);
    }

    private static void promise16TradesRefused() {
        IslandThatLeans bare = new IslandThatLeans();
        Due.is("UNKNOWN without a plan", bare.trades(8, 2), UNKNOWN);
        Due.is("OUTSIDE without a plan", bare.trades(0, 2), OUTSIDE);
        Due.is("STATE without a plan", bare.trades(0, 0), STATE);
        IslandThatLeans x = small();
        Due.is("trades(-1, 0)", x.trades(-1, 0), UNKNOWN);
        Due.is("trades(8, 0)", x.trades(8, 0), UNKNOWN);
        for (int what : new int[] {-1, 2, 9, 18}) {
            Due.is("trades(0, " + what + ")", x.trades(0, what), OUTSIDE);
        }
        for (int i = 0; i < 6; i++) {
            x.thing(3 + i % 2, 1, 0);
        }
        x.thing(1, 1, 0);
        Due.is("six people", x.trades(0, 0), 0);
        x.thing(4, 1, 0);
        Due.is("seven people", x.trades(0, 0), STATE);
        Due.is("UNKNOWN ahead of STATE", x.trades(8, 0), UNKNOWN);
        Due.is("OUTSIDE ahead of STATE", x.trades(0, 2), OUTSIDE);
        Due.is("refused ones are not done", x.count(6), 1);
    }

    private static void promise16TradesLimit() {
        IslandThatLeans x = small();
        x.image();
        for (int i = 0; i < 29; i++) {
            x.trades(i % 8, 0);
        }
        Due.write(x, "../..");
        x.plan();
        x.image();
        x.restore();
        Due.is("done counts on", x.count(6), 29);
        Due.is("the 30th", x.trades(0, 0), 0);
        Due.is("the 31st", x.trades(0, 0), STATE);
        Due.is("the 31st of no quarter", x.trades(8, 0), UNKNOWN);
        Due.is("the 31st of nothing", x.trades(0, 2), OUTSIDE);
        Due.is("done", x.count(6), 30);
    }

    private static void promise17Counter() {
        IslandThatLeans x = small();
        Due.write(x, "e");
        // From 1 the second would leave the door 60 deep in each quarter; from 3 it levels all.
        Due.is("counter(0, 30, 0)", x.counter(0, 30, 0), 3);
        Due.is("counter(0, 30, 1)", x.counter(0, 30, 1), 0);
        Due.is("a dip of 50", x.counter(0, 25, 0), 3);
        Due.is("a dip of 48", x.counter(0, 24, 0), 1);
        Due.is("letters stay", x.count(4), 1);
        x.thing(0, 99, 0);
        // The thing alone dips 198, and the two processions 4 times their weight between them at most.
        Due.is("wet in all quarters", x.counter(0, 1, 1), 8);
        Due.is("of like ones the least", x.counter(0, 1, 0), 1);
        // Only the one that starts across levels the island all the while.
        counterOfOneLetter("n", 2, 1);
        counterOfOneLetter("e", 0, 3);
        counterOfOneLetter("s", 0, 3);
        counterOfOneLetter("w", 3, 0);
    }

    private static void counterOfOneLetter(String way, int from, int want) {
        IslandThatLeans x = Due.planned("1./.1");
        Due.write(x, way);
        Due.is("counter by " + way, x.counter(from, 30, 0), want);
        Due.is("wet doors by " + way, x.counter(from, 30, 1), 0);
    }

    private static void promise17CounterStaysAtItsEnd() {
        // Door 0 dips by a weight of 1 in the squares 0 to 5: 5, 1, -3, 3, -1, -5.
        IslandThatLeans x = Due.planned("1../...");
        x.thing(0, 12, 0);
        Due.write(x, "ee");
        // The first dips 30, -10, -50 and then -50; the second from 5 -50, -10, 30 and then 30.
        Due.is("counter(3, 10, 0)", x.counter(3, 10, 0), 5);
        Due.is("counter(3, 10, 1)", x.counter(3, 10, 1), 0);
        IslandThatLeans z = Due.planned("2../...");
        Due.write(z, "ssssss");
        Due.is("a way off the island in its second step", z.counter(0, 9, 0), STATE);
        z.blank();
        Due.write(z, "snsnsns");
        Due.is("seven letters", z.counter(0, 9, 0), 3);
        Due.write(z, "n");
        Due.is("eight letters", z.counter(0, 9, 0), STATE);
    }

    private static void promise17CounterRefused() {
        IslandThatLeans bare = new IslandThatLeans();
        Due.write(bare, "e");
        Due.is("UNKNOWN without a plan", bare.counter(0, 0, 2), UNKNOWN);
        IslandThatLeans x = small();
        Due.is("no letters", x.counter(0, 5, 0), STATE);
        Due.write(x, "e");
        Due.is("counter(-1, 5, 0)", x.counter(-1, 5, 0), UNKNOWN);
        Due.is("counter(4, 5, 0)", x.counter(4, 5, 0), UNKNOWN);
        Due.is("weight 0", x.counter(0, 0, 0), OUTSIDE);
        Due.is("weight 100", x.counter(0, 100, 0), OUTSIDE);
        Due.is("what -1", x.counter(0, 5, -1), OUTSIDE);
        Due.is("what 2", x.counter(0, 5, 2), OUTSIDE);
        Due.is("it leaves the island", x.counter(1, 5, 0), STATE);
        Due.is("UNKNOWN ahead of OUTSIDE", x.counter(4, 0, 0), UNKNOWN);
        Due.is("OUTSIDE ahead of STATE", x.counter(1, 0, 0), OUTSIDE);
        Due.write(x, "x");
        Due.is("no way", x.counter(0, 5, 0), STATE);
        Due.is("OUTSIDE ahead of no way", x.counter(0, 5, 2), OUTSIDE);
    }

    private static void promise18Stones() {
        IslandThatLeans x = small();
        answers(x, new int[] {0, NONE, NONE, NONE, NONE}, "of none");
        x.thing(1, 60, 0);
        answers(x, new int[] {1, 0, 1, NONE, NONE}, "of one");
        x.thing(1, 60, 0);
        // One of the two at 3 levels the island.
        answers(x, new int[] {1, 0, 3, NONE, NONE}, "of one of two");
        Due.is("stones() done", x.count(7), 15);
        Due.is("nothing goes", x.about(0, 10), 0);
        IslandThatLeans y = small();
        y.thing(1, 10, 1);
        y.thing(3, 30, 3);
        y.thing(1, 60, 3);
        y.stand(1, 5, 0);
        // In quarter 5 the person dips 60, but stone 2 lifts 120.
        answers(y, new int[] {0, NONE, NONE, NONE, NONE}, "of a dry day");
        y.put(2, 2);
        // Now it lifts nothing; stone 0 in square 3 lifts 20.
        answers(y, new int[] {1, 0, 3, NONE, NONE}, "of one wet quarter");
    }

    private static void promise18TwoStones() {
        IslandThatLeans x = small();
        x.thing(1, 60, 0);
        x.thing(2, 60, 0);
        x.thing(1, 60, 0);
        // One at 3 leaves a dip of 120; with the first at 1, the second must be at 3.
        answers(x, new int[] {2, 0, 1, 2, 3}, "of two");
        IslandThatLeans y = small();
        y.thing(1, 1, 0);
        y.thing(4, 99, 0);
        y.thing(1, 1, 0);
        y.thing(1, 1, 0);
        answers(y, new int[] {NONE, NONE, NONE, NONE, NONE}, "not by two");
        IslandThatLeans z = small();
        z.thing(0, 30, 0);
        Due.is("without a stone", z.stones(0), NONE);
        z.thing(1, 15, 0);
        z.thing(1, 1, 0);
        // The thing and stone 2 dip 62: stone 1 must lift.
        answers(z, new int[] {1, 1, 3, NONE, NONE}, "of a thing and two stones");
        z.thing(1, 4, 0);
        // 70 now, and stone 1 in square 3 lifts 30.
        answers(z, new int[] {1, 1, 3, NONE, NONE}, "of a thing and three stones");
    }

    private static void promise18StonesRefused() {
        IslandThatLeans bare = new IslandThatLeans();
        Due.is("OUTSIDE without a plan", bare.stones(5), OUTSIDE);
        Due.is("STATE without a plan", bare.stones(0), STATE);
        IslandThatLeans x = small();
        Due.is("stones(-1)", x.stones(-1), OUTSIDE);
        Due.is("stones(5)", x.stones(5), OUTSIDE);
        Due.is("refused ones are not done", x.count(7), 0);
        for (int i = 0; i < 19; i++) {
            Due.is("stones(" + i % 5 + ")", x.stones(i % 5), i % 5 == 0 ? 0 : NONE);
        }
        Due.write(x, "../..");
        x.plan();
        x.image();
        x.restore();
        Due.is("done counts on", x.count(7), 19);
        Due.is("the 20th", x.stones(0), 0);
        Due.is("the 21st", x.stones(0), STATE);
        Due.is("the 21st of nothing", x.stones(5), OUTSIDE);
        Due.is("done", x.count(7), 20);
    }

    private static void promise19Site() {
        IslandThatLeans x = small();
        Due.is("a dip of 48", x.site(24), 0);
        Due.is("a dip of 50", x.site(25), 1);
        x.thing(0, 60, 0);
        // It takes 36 more in square 3 to bring 120 below 50.
        Due.is("site(36)", x.site(36), 3);
        Due.is("site(35)", x.site(35), 0);
        Due.is("no thing comes", x.count(2), 1);
        IslandThatLeans y = Due.planned("1./.1");
        y.thing(3, 20, 0);
        y.stand(0, 7, 3);
        // In square 0 it wets the door of 0 in seven quarters, in 3 that of 3 in one, in 1 none.
        Due.is("site(10)", y.site(10), 1);
        y.thing(0, 30, 0);
        // Door 0 dips 100 in seven quarters and 20 in the last; 60 in square 3 wet door 3 in that one.
        Due.is("site(60)", y.site(60), 3);
        Due.is("site(30)", y.site(30), 3);
        Due.is("site(0)", y.site(0), OUTSIDE);
        Due.is("site(100)", y.site(100), OUTSIDE);
        IslandThatLeans bare = new IslandThatLeans();
        Due.is("site(0) without a plan", bare.site(0), OUTSIDE);
        Due.is("site(1) without a plan", bare.site(1), STATE);
        IslandThatLeans full = small();
        for (int i = 0; i < 8; i++) {
            full.thing(0, 1, 3);
        }
        Due.is("site(1) with eight things", full.site(1), 0);
    }

    private static void late(IslandThatLeans x, int quarter, int doors, int[] want) {
        for (int what = 0; what < 3; what++) {
            Due.is("late(" + quarter + ", " + doors + ", " + what + ")", x.late(quarter, doors, what), want[what]);
        }
    }

    private static void promise20Late() {
        IslandThatLeans x = small();
        late(x, 1, 0, new int[] {1, 0, 0});
        late(x, 1, 1, new int[] {0, 0, 0});
        x.thing(0, 1, 1);
        x.thing(3, 30, 0);
        x.stand(1, 1, 3);
        // In time it is dry; who is late still stands in square 0.
        late(x, 1, 0, new int[] {1, 0, 0});
        late(x, 1, 1, new int[] {1, 2, 2});
        late(x, 1, 2, new int[] {0, 0, 0});
        late(x, 1, 3, new int[] {0, 0, 0});
        // In quarter 2 it is back: late, it would still be in square 3.
        late(x, 2, 0, new int[] {1, 2, 2});
        late(x, 2, 1, new int[] {1, 0, 0});
        // From 2 to 3 it stays: late or not is the same.
        late(x, 3, 1, new int[] {2, 0, 2});
        late(x, 3, 0, new int[] {0, 0, 0});
    }

    private static void promise20LateSets() {
        IslandThatLeans x = small();
        x.thing(3, 13, 0);
        x.thing(4, 13, 0);
        x.thing(1, 1, 1);
        x.thing(3, 12, 0);
        for (int thing : new int[] {0, 1, 3}) {
            x.stand(thing, 7, 1);
        }
        // Of 13, 26 and 12, those who are late dip twice what they weigh: 25 or more wet the door.
        late(x, 7, 1, new int[] {5, 0, 11});
        late(x, 7, 0, new int[] {3, 0, 9});
        x.put(2, 3);
        x.thing(0, 14, 3);
        // Those in square 3 lift 30: 40 or more must be late.
        late(x, 7, 1, new int[] {1, 11, 11});
        x.thing(0, 1, 0);
        // 39 or more.
        late(x, 7, 1, new int[] {2, 3, 11});
    }

    private static void promise20LateRefused() {
        IslandThatLeans bare = new IslandThatLeans();
        Due.is("UNKNOWN without a plan", bare.late(0, 1, 3), UNKNOWN);
        Due.is("OUTSIDE doors without a plan", bare.late(1, 1, 0), OUTSIDE);
        Due.is("OUTSIDE what without a plan", bare.late(1, 0, 3), OUTSIDE);
        Due.is("STATE without a plan", bare.late(1, 0, 0), STATE);
        IslandThatLeans x = small();
        Due.is("quarter 0", x.late(0, 0, 0), UNKNOWN);
        Due.is("quarter 8", x.late(8, 0, 0), UNKNOWN);
        Due.is("quarter -1", x.late(-1, 0, 0), UNKNOWN);
        Due.is("quarter 7", x.late(7, 0, 0), 1);
        Due.is("doors 15", x.late(1, 15, 0), 0);
        Due.is("doors 16", x.late(1, 16, 0), OUTSIDE);
        Due.is("doors -1", x.late(1, -1, 0), OUTSIDE);
        Due.is("doors of the sign alone", x.late(1, Integer.MIN_VALUE, 0), OUTSIDE);
        Due.is("what -1", x.late(1, 0, -1), OUTSIDE);
        Due.is("what 3", x.late(1, 0, 3), OUTSIDE);
        Due.is("UNKNOWN ahead of OUTSIDE", x.late(0, 16, 0), UNKNOWN);
        IslandThatLeans large = Due.planned("....../....../....../....../......");
        Due.is("all thirty squares", large.late(1, (1 << 30) - 1, 0), 0);
        Due.is("a thirty-first square", large.late(1, 1 << 30, 0), OUTSIDE);
    }

    private static void promise21Storm() {
        IslandThatLeans x = Due.planned("1..../...../...../...../.....");
        Due.is("dry at once", x.storm(0), 0);
        x.thing(3, 10, 0);
        x.thing(0, 1, 24);
        // The thing lifts 32, the person dips 320, 240, 160, 80 as it goes 5, 10, 11.
        Due.is("storm(0)", x.storm(0), 3);
        x.put(1, 12);
        Due.is("storm(0) with the thing in the middle", x.storm(0), 4);
        x.stand(0, 3, 6);
        Due.is("storm(3)", x.storm(3), 2);
        x.thing(4, 5, 0);
        // The two dip 640, 480, 320, 160, 0.
        Due.is("storm(0) of two", x.storm(0), 4);
        x.put(1, 0);
        // The thing itself dips 32 and stays.
        Due.is("storm(0) with a weight of 1 left", x.storm(0), 4);
        x.thing(1, 1, 0);
        Due.is("storm(0) with a weight of 2 left", x.storm(0), NONE);
        Due.is("nobody goes", x.about(0, 10), 0);

        // Up or down first: from 0 to 5 the dip of 4 at the top in the middle falls from 240 to 120.
        IslandThatLeans up = Due.planned("..4../...../...../...../.....");
        up.thing(3, 15, 0);
        Due.is("down first", up.storm(0), 1);
        // The middle of two rows and two columns is square 3.
        IslandThatLeans even = Due.planned("../.1");
        even.thing(4, 99, 3);
        Due.is("the middle itself is wet", even.storm(0), NONE);
        IslandThatLeans four = Due.planned("1.../..../..../....");
        four.thing(3, 3, 0);
        four.thing(0, 1, 0);
        // 18 by the thing and 54, 36, 18, 0, -18 by the person, who goes 4, 8, 9, 10.
        Due.is("storm of four by four", four.storm(0), 2);
        four.thing(0, 1, 0);
        four.thing(0, 1, 0);
        Due.is("storm of four by four beyond the middle", four.storm(0), 4);
        // From the other side: up, then left.
        IslandThatLeans back = Due.planned("..../..../..../...1");
        back.thing(3, 4, 15);
        back.thing(0, 2, 15);
        // 36 by the thing and 72, 48, 24 by the person, who goes up to 11 and left to 10.
        Due.is("storm from the last square", back.storm(0), NONE);
    }

    private static void promise21StormRefused() {
        IslandThatLeans bare = new IslandThatLeans();
        Due.is("UNKNOWN without a plan", bare.storm(8), UNKNOWN);
        Due.is("STATE without a plan", bare.storm(0), STATE);
        IslandThatLeans x = small();
        Due.is("storm(-1)", x.storm(-1), UNKNOWN);
        Due.is("storm(8)", x.storm(8), UNKNOWN);
        Due.is("storm(7)", x.storm(7), 0);
    }

    private static void promise22Moss() {
        IslandThatLeans bare = new IslandThatLeans();
        Due.is("STATE without a plan", bare.moss(), STATE);
        IslandThatLeans x = small();
        Due.is("without things", x.moss(), NONE);
        x.thing(0, 10, 0);
        Due.is("without stones", x.moss(), NONE);
        x.thing(1, 5, 0);
        Due.is("30 and 2 each year", x.moss(), 10);
        x.thing(1, 1, 0);
        Due.is("32 and 4 each year", x.moss(), 5);
        x.thing(3, 9, 3);
        x.stand(3, 6, 0);
        Due.is("50 in quarter 6 already", x.moss(), 0);
        Due.is("the stones stay light", x.about(1, 2), 5);
        IslandThatLeans y = Due.planned("5./..");
        y.thing(1, 26, 0);
        Due.is("52 and 2 each year, 250 due", y.moss(), 99);
        IslandThatLeans z = Due.planned("5./..");
        z.thing(1, 25, 0);
        Due.is("50 and 2 each year, 250 due", z.moss(), NONE);
        IslandThatLeans level = Due.planned("1./.1");
        level.thing(1, 99, 0);
        level.thing(1, 99, 3);
        Due.is("level stones", level.moss(), NONE);
    }

    private static void promise23Cows() {
        // The draws by the seed 0 are 0 3 3 2 3 2 0 1 2 0 1 2.
        int[] spots = {0, 2, 2, 3, 3, 3, 3, 1, 1, 1, 1, 1};
        int[] wet = {1, 1, 1, 2, 3, 4, 5, 5, 5, 5, 5, 5};
        IslandThatLeans x = Due.planned("1./.1");
        x.thing(2, 25, 0);
        for (int minutes = 1; minutes <= 12; minutes++) {
            Due.is("wet minutes of " + minutes, x.cows(0, minutes, 0, 0), wet[minutes - 1]);
            Due.is("spot behind " + minutes, x.cows(7, minutes, 0, 10), spots[minutes - 1]);
        }
        Due.is("the seed behind 1", x.cows(0, 1, 0, 1), 12345);
        Due.is("the seed behind 12", x.cows(0, 12, 0, 1), 1772930244);
        Due.is("the seed behind the greatest", x.cows(0, 1, Integer.MAX_VALUE, 1), 1043980748);
        Due.is("no thing 1", x.cows(0, 1, 0, 11), NONE);
        Due.is("the cow stays", x.about(0, 10), 0);
        // The draws by the seed 77 are 2 0 4 4 4 4 2 4 0 0 2 1.
        int[] along = {2, 2, 1, 0, 0, 0, 1, 0, 0, 0, 1, 1};
        IslandThatLeans y = Due.planned("....../......");
        y.thing(2, 1, 1);
        for (int minutes = 1; minutes <= 12; minutes++) {
            Due.is("along behind " + minutes, y.cows(0, minutes, 77, 10), along[minutes - 1]);
        }
        IslandThatLeans none = small();
        none.thing(3, 30, 0);
        none.stand(0, 2, 3);
        Due.is("no cow, no draw", none.cows(0, 60, 5, 1), 5);
        Due.is("no cow, wet all the while", none.cows(0, 60, 5, 0), 60);
        Due.is("no cow, dry all the while", none.cows(2, 60, 5, 0), 0);
        Due.is("where the person stands then", none.cows(2, 60, 5, 10), 3);
    }

    private static void promise23TwoCows() {
        IslandThatLeans x = Due.planned("1../.../...");
        x.thing(2, 1, 4);
        x.thing(3, 1, 8);
        x.thing(2, 1, 0);
        Due.is("the first cow", x.cows(0, 3, 0, 10), 7);
        Due.is("the person", x.cows(0, 3, 0, 11), 8);
        Due.is("the second cow", x.cows(0, 3, 0, 12), 5);
        Due.is("the seed behind six draws", x.cows(0, 3, 0, 1), 1109335178);
    }

    private static void promise23CowsRefused() {
        IslandThatLeans bare = new IslandThatLeans();
        Due.is("UNKNOWN without a plan", bare.cows(8, 0, 0, 0), UNKNOWN);
        Due.is("OUTSIDE without a plan", bare.cows(0, 0, 0, 0), OUTSIDE);
        Due.is("STATE without a plan", bare.cows(0, 1, 0, 0), STATE);
        IslandThatLeans x = small();
        Due.is("quarter -1", x.cows(-1, 1, 0, 0), UNKNOWN);
        Due.is("quarter 8", x.cows(8, 1, 0, 0), UNKNOWN);
        Due.is("minutes 0", x.cows(0, 0, 0, 0), OUTSIDE);
        Due.is("minutes 61", x.cows(0, 61, 0, 0), OUTSIDE);
        Due.is("minutes 60", x.cows(0, 60, 0, 0), 0);
        Due.is("seed -1", x.cows(0, 1, -1, 0), OUTSIDE);
        for (int what : new int[] {-1, 2, 9, 18}) {
            Due.is("what " + what, x.cows(0, 1, 0, what), OUTSIDE);
        }
        Due.is("UNKNOWN ahead of OUTSIDE", x.cows(8, 61, -1, 2), UNKNOWN);
    }
}
