/** Promises 16 to 19: a test for each sentence of the document that names a boundary. */
public final class SearchEdgesTest {
    private static final int NONE = IslandThatLeans.NONE;
    private static final int UNKNOWN = IslandThatLeans.UNKNOWN;
    private static final int OUTSIDE = IslandThatLeans.OUTSIDE;
    private static final int STATE = IslandThatLeans.STATE;
    private static final int[] FAR = {-1, Integer.MIN_VALUE, Integer.MAX_VALUE, 64, 1 << 16};

    public static void main(String[] args) {
        tradesUnknown();
        tradesOutside();
        tradesWithoutAPlan();
        tradesOfSixAndSevenPeople();
        tradesThe30thAndThe31st();
        tradesCountOnWhateverIsRead();
        tradesCountOnWhateverIsRestored();
        tradesRefusedAreNotDone();
        tradesOfNobody();
        tradesNoPersonOrNotThere();
        tradesOfTheEighthThing();
        tradesFewestWetFirst();
        tradesFewestElsewhere();
        tradesElsewhereIsAnotherSquare();
        tradesTheFirstOfLikeOnes();
        tradesTheFirstOfLikeOnesInOneSquare();
        tradesInEachQuarter();
        tradesMoveNobody();
        counterUnknown();
        counterOutside();
        counterWeightOf1And99();
        counterOfNoWay();
        counterOfOneAndSevenLetters();
        counterThatLeavesTheIsland();
        counterStaysAtItsEnd();
        counterRefusalsInOrder();
        counterOfLikeOnesTheLeast();
        counterInAllQuarters();
        counterLeavesThePage();
        stonesOutside();
        stonesWithoutAPlan();
        stonesThe20thAndThe21st();
        stonesCountOnWhateverIsRestored();
        stonesRefusedAreNotDone();
        stonesNone();
        stonesOne();
        stonesOneAtJust50();
        stonesTwo();
        stonesTwoOfEight();
        stonesNotByTwo();
        stonesAreStonesAlone();
        stonesInEachQuarter();
        stonesStandElsewhere();
        siteOfWeights();
        siteWithoutAPlan();
        siteOfLikeOnesTheLeast();
        siteInAllQuarters();
        siteOfEightThings();
        Due.end();
    }

    /** A weight in square 0 dips its door twice itself, one in square 3 lifts it so, others do nothing. */
    private static IslandThatLeans small() {
        return Due.planned("1./..");
    }

    /** What trades() tells: how many wet, how many elsewhere, and where the first things stand. */
    private static void tells(IslandThatLeans x, int quarter, int wet, int elsewhere, int... places) {
        Due.is("trades(" + quarter + ", 0)", x.trades(quarter, 0), wet);
        Due.is("trades(" + quarter + ", 1)", x.trades(quarter, 1), elsewhere);
        for (int thing = 0; thing < places.length; thing++) {
            Due.is("trades(" + quarter + ", 1" + thing + ")", x.trades(quarter, 10 + thing), places[thing]);
        }
    }

    // Promise 16: "UNKNOWN: quarter".
    private static void tradesUnknown() {
        IslandThatLeans x = small();
        x.thing(3, 1, 2);
        Due.is("quarter 0", x.trades(0, 10), 2);
        Due.is("quarter 7", x.trades(7, 10), 2);
        Due.is("quarter 8", x.trades(8, 10), UNKNOWN);
        for (int quarter : FAR) {
            Due.is("quarter " + quarter, x.trades(quarter, 0), UNKNOWN);
        }
        Due.is("quarter 8 and a wrong what", x.trades(8, 2), UNKNOWN);
    }

    // "OUTSIDE": what is 0, 1, 10 to 17.
    private static void tradesOutside() {
        IslandThatLeans x = small();
        for (int what = 2; what < 10; what++) {
            Due.is("trades(0, " + what + ")", x.trades(0, what), OUTSIDE);
        }
        Due.is("trades(0, 18)", x.trades(0, 18), OUTSIDE);
        for (int what : FAR) {
            Due.is("trades(0, " + what + ")", x.trades(0, what), OUTSIDE);
        }
        for (int what = 10; what < 18; what++) {
            Due.is("trades(0, " + what + ")", x.trades(0, what), NONE);
        }
    }

    // "what would be (STATE: no PLAN)".
    private static void tradesWithoutAPlan() {
        IslandThatLeans x = new IslandThatLeans();
        Due.is("trades(0, 0)", x.trades(0, 0), STATE);
        Due.is("trades(7, 17)", x.trades(7, 17), STATE);
        Due.is("trades(8, 0)", x.trades(8, 0), UNKNOWN);
        Due.is("trades(0, 2)", x.trades(0, 2), OUTSIDE);
        Due.is("trades() done", x.count(6), 0);
    }

    // "STATE: more than six PEOPLE, too": a FAT is one of them, others are not.
    private static void tradesOfSixAndSevenPeople() {
        for (int kind = 3; kind < 5; kind++) {
            IslandThatLeans x = small();
            x.thing(1, 1, 1);
            for (int number = 0; number < 6; number++) {
                x.thing(kind, 1, number % 4);
            }
            tells(x, 0, 0, 0, NONE, 0, 1, 2, 3, 0, 1, NONE);
            x.image();
            Due.is("a seventh", x.thing(7 - kind, 1, 0), 7);
            Due.is("of seven", x.trades(0, 0), STATE);
            Due.is("of seven in no quarter", x.trades(8, 0), UNKNOWN);
            Due.is("of seven, a wrong what", x.trades(0, 9), OUTSIDE);
            Due.is("trades() done", x.count(6), 10);
            x.restore();
            Due.is("of six again", x.trades(0, 0), 0);
            Due.is("an eighth that is no person", x.thing(0, 1, 0), 7);
            Due.is("of six and two others", x.trades(0, 1), 0);
        }
    }

    // "or trades() was done 30 times ever".
    private static void tradesThe30thAndThe31st() {
        IslandThatLeans x = small();
        int[] whats = {0, 1, 10, 17};
        for (int done = 0; done < 30; done++) {
            Due.is("trades() done", x.count(6), done);
            Due.is("the next one", x.trades(done % 8, whats[done % 4]), done % 4 < 2 ? 0 : NONE);
        }
        Due.is("30 done", x.count(6), 30);
        Due.is("the 31st", x.trades(0, 0), STATE);
        Due.is("the 32nd", x.trades(7, 17), STATE);
        Due.is("the 31st in no quarter", x.trades(-1, 0), UNKNOWN);
        Due.is("the 31st, a wrong what", x.trades(0, 18), OUTSIDE);
        Due.is("still 30 done", x.count(6), 30);
    }

    // "(it counts on, whatever is read or restored)".
    private static void tradesCountOnWhateverIsRead() {
        IslandThatLeans x = small();
        for (int done = 0; done < 29; done++) {
            x.trades(0, 0);
        }
        Due.write(x, "../..");
        x.plan();
        Due.is("done, behind another plan", x.count(6), 29);
        Due.is("the 30th", x.trades(0, 0), 0);
        Due.write(x, "1./..");
        x.plan();
        Due.is("the 31st, behind a third plan", x.trades(0, 0), STATE);
    }

    private static void tradesCountOnWhateverIsRestored() {
        IslandThatLeans x = small();
        x.trades(0, 0);
        x.image();
        for (int done = 1; done < 30; done++) {
            x.trades(0, 0);
        }
        Due.is("restore()", x.restore(), 0);
        Due.is("done, behind restore()", x.count(6), 30);
        Due.is("the 31st, behind restore()", x.trades(0, 0), STATE);
    }

    private static void tradesRefusedAreNotDone() {
        IslandThatLeans x = new IslandThatLeans();
        for (int i = 0; i < 31; i++) {
            x.trades(0, 0);
        }
        Due.write(x, "../..");
        x.plan();
        for (int i = 0; i < 31; i++) {
            x.trades(8, 0);
            x.trades(0, 2);
        }
        Due.is("none was done", x.count(6), 0);
        Due.is("the first", x.trades(0, 0), 0);
        Due.is("one was done", x.count(6), 1);
    }

    private static void tradesOfNobody() {
        IslandThatLeans x = Due.planned("11/11");
        tells(x, 3, 0, 0, NONE);
        x.thing(1, 60, 0);
        x.thing(2, 60, 3);
        x.thing(0, 60, 0);
        tells(x, 3, 1, 0, NONE, NONE, NONE, NONE);
    }

    // "(NONE: it is no PERSON, or is not there)".
    private static void tradesNoPersonOrNotThere() {
        IslandThatLeans x = small();
        for (int kind = 0; kind < 5; kind++) {
            x.thing(kind, 1, 3);
        }
        tells(x, 0, 0, 0, NONE, NONE, NONE, 3, 3, NONE, NONE, NONE);
    }

    private static void tradesOfTheEighthThing() {
        IslandThatLeans x = small();
        x.thing(3, 1, 3);
        for (int number = 1; number < 7; number++) {
            x.thing(number % 3, 1, 1);
        }
        x.thing(4, 60, 0);
        tells(x, 0, 0, 2, 0, NONE, NONE, NONE, NONE, NONE, NONE, 3);
    }

    // "of all that by which fewest DOORS are WET": even if more must go.
    private static void tradesFewestWetFirst() {
        // A weight of 1 in the squares 0 to 5 dips door 0 by 5, 1, -3, 3, -1, -5, and door 5 by as much less.
        IslandThatLeans x = Due.planned("1../..1");
        x.thing(3, 5, 2);
        x.thing(3, 60, 0);
        x.thing(3, 30, 1);
        // Any two alone that change leave a dip of 195, 215 or -125; both rounds of three leave none wet.
        tells(x, 0, 0, 3, 0, 1, 2);
        // Whoever of the heavy ones changes with the light one, both doors are wet.
        IslandThatLeans y = Due.planned("11/..");
        y.thing(3, 60, 0);
        y.thing(3, 70, 0);
        y.thing(3, 1, 1);
        tells(y, 0, 1, 0, 0, 0, 1);
    }

    // "of like ones the one by which fewest PEOPLE stand in another SQUARE than now".
    private static void tradesFewestElsewhere() {
        IslandThatLeans x = small();
        x.thing(3, 24, 0);
        x.thing(3, 1, 3);
        tells(x, 0, 0, 0, 0, 3);
        IslandThatLeans y = small();
        y.thing(3, 30, 0);
        y.thing(3, 1, 3);
        y.thing(3, 2, 2);
        // 60 less 2 is wet: person 0 changes with 1 or 2, rather than all three go round.
        tells(y, 0, 0, 2, 3, 0, 2);
    }

    // "in another SQUARE than now": who takes the SQUARE of one beside him stays.
    private static void tradesElsewhereIsAnotherSquare() {
        IslandThatLeans x = small();
        for (int number = 0; number < 6; number++) {
            x.thing(3, 1 + number, 2);
        }
        tells(x, 0, 0, 0, 2, 2, 2, 2, 2, 2);
        IslandThatLeans y = small();
        y.thing(3, 1, 3);
        y.thing(3, 60, 0);
        y.thing(3, 1, 3);
        y.thing(3, 1, 0);
        // Two of four change, "each SQUARE as often as it is": 0 twice, 3 twice; person 0 keeps its own.
        tells(y, 0, 0, 2, 3, 3, 0, 0);
    }

    // "of like ones the first (by whose SQUARE the first PERSON takes, by number, then the second, and so on)".
    private static void tradesTheFirstOfLikeOnes() {
        // As well: person 1 in square 2 and person 2 in square 1.
        IslandThatLeans x = Due.planned("1./.2");
        x.thing(3, 15, 1);
        x.thing(3, 60, 3);
        x.thing(3, 45, 3);
        x.thing(3, 20, 2);
        tells(x, 0, 0, 4, 3, 1, 2, 3);
        // As well 3, 1, 0, 1.
        IslandThatLeans y = Due.planned("11/11");
        y.thing(3, 50, 1);
        y.thing(3, 5, 0);
        y.thing(3, 50, 1);
        y.thing(3, 5, 3);
        tells(y, 0, 0, 4, 0, 1, 3, 1);
        // As well 4, 0, 3, 4.
        IslandThatLeans z = Due.planned("1.1/...");
        z.thing(3, 35, 3);
        z.thing(3, 15, 4);
        z.thing(3, 15, 4);
        z.thing(3, 55, 0);
        tells(z, 0, 0, 4, 4, 3, 0, 4);
        // Person 1's square, 3, goes ahead of person 2's, 1: by number, not by square.
        IslandThatLeans n = small();
        n.thing(4, 30, 0);
        n.thing(3, 1, 3);
        n.thing(3, 1, 1);
        tells(n, 0, 0, 2, 3, 0, 1);
    }

    // Two in one SQUARE: who takes the other's stands where he stood, and is told ahead by the other's number.
    private static void tradesTheFirstOfLikeOnesInOneSquare() {
        // As well 0, 2, 0, 3: person 0 takes that of 1, and then 1 that of 2 rather than that of 3.
        IslandThatLeans x = Due.planned("11/11");
        x.thing(3, 25, 3);
        x.thing(3, 20, 0);
        x.thing(3, 10, 0);
        x.thing(3, 45, 2);
        tells(x, 0, 0, 3, 0, 0, 2, 3);
        // As well 1, 2, 0, 2.
        IslandThatLeans y = Due.planned("1./.2");
        y.thing(3, 30, 0);
        y.thing(3, 55, 2);
        y.thing(3, 20, 1);
        y.thing(3, 10, 2);
        tells(y, 0, 0, 2, 2, 2, 1, 0);
    }

    private static void tradesInEachQuarter() {
        for (int quarter = 0; quarter < 8; quarter++) {
            IslandThatLeans x = small();
            x.thing(3, 60, 1);
            x.thing(3, 1, 3);
            x.stand(0, quarter, 0);
            tells(x, quarter, 0, 2, 3, 0);
            tells(x, (quarter + 1) % 8, 0, 0, 1, 3);
        }
    }

    private static void tradesMoveNobody() {
        IslandThatLeans x = small();
        x.thing(3, 60, 0);
        x.thing(3, 1, 3);
        tells(x, 2, 0, 2, 3, 0);
        for (int quarter = 0; quarter < 8; quarter++) {
            Due.is("where 0 stands", x.about(0, 10 + quarter), 0);
            Due.is("where 1 stands", x.about(1, 10 + quarter), 3);
            Due.is("wet doors", x.wet(quarter), 1);
        }
    }

    /** The small island with that way on THE PAGE. */
    private static IslandThatLeans going(String way) {
        IslandThatLeans x = small();
        Due.write(x, way);
        return x;
    }

    // Promise 17: "UNKNOWN: square".
    private static void counterUnknown() {
        IslandThatLeans x = going("e");
        Due.is("square 4", x.counter(4, 1, 0), UNKNOWN);
        for (int square : FAR) {
            Due.is("square " + square, x.counter(square, 1, 0), UNKNOWN);
        }
        Due.is("square 2", x.counter(2, 1, 0), 1);
        IslandThatLeans bare = Due.lettered("e");
        Due.is("square 0 without a plan", bare.counter(0, 1, 0), UNKNOWN);
        Due.is("weight 0 and what 2 without a plan", bare.counter(0, 0, 2), UNKNOWN);
    }

    // "OUTSIDE: weight (1 to 99), what".
    private static void counterOutside() {
        IslandThatLeans x = going("e");
        Due.is("weight 0", x.counter(0, 0, 0), OUTSIDE);
        Due.is("weight 100", x.counter(0, 100, 0), OUTSIDE);
        Due.is("what 2", x.counter(0, 1, 2), OUTSIDE);
        Due.is("what 10", x.counter(0, 1, 10), OUTSIDE);
        for (int what : FAR) {
            Due.is("what " + what, x.counter(0, 1, what), OUTSIDE);
        }
        for (int weight : new int[] {-1, -99, Integer.MIN_VALUE, Integer.MAX_VALUE}) {
            Due.is("weight " + weight, x.counter(0, weight, 1), OUTSIDE);
        }
    }

    private static void counterWeightOf1And99() {
        IslandThatLeans x = going("e");
        Due.is("weight 1", x.counter(0, 1, 0), 1);
        Due.is("weight 1 wets nothing", x.counter(0, 1, 1), 0);
        Due.is("weight 99", x.counter(0, 99, 0), 3);
        Due.is("weight 99 wets nothing", x.counter(0, 99, 1), 0);
        Due.is("weight 99 above square 2", x.counter(2, 99, 0), 1);
        IslandThatLeans y = Due.planned("9./..");
        Due.write(y, "e");
        // 2 times 99 of 450 asked: all are alike.
        Due.is("weight 99 at a height of 9", y.counter(0, 99, 0), 1);
        y.thing(4, 99, 0);
        y.thing(0, 26, 0);
        // 448 already: 2 times 1 more just wets it.
        Due.is("just 50 times the height", y.counter(0, 1, 0), 3);
        Due.is("just dry", y.counter(0, 1, 1), 0);
        y.thing(0, 1, 0);
        Due.is("wet whichever", y.counter(0, 1, 0), 1);
        Due.is("wet in eight quarters", y.counter(0, 1, 1), 8);
    }

    // "STATE: THE PAGE is no way".
    private static void counterOfNoWay() {
        for (String page : new String[] {"", ".", "x", "ex", "xe", "N", "e.", "../.."}) {
            Due.is("counter() by " + page, going(page).counter(0, 1, 0), STATE);
        }
    }

    // "one to seven letters".
    private static void counterOfOneAndSevenLetters() {
        String[] ways = {"e", "ew", "ewe", "ewew", "ewewe", "ewewew", "ewewewe"};
        for (String way : ways) {
            Due.is("counter() by " + way, going(way).counter(0, 30, 0), 3);
            Due.is("wet doors by " + way, going(way).counter(0, 30, 1), 0);
        }
        Due.is("eight letters", going("ewewewew").counter(0, 30, 0), STATE);
        Due.is("forty letters", going("ew".repeat(20)).counter(0, 30, 0), STATE);
        // Five to the east and two back: opposite in the same row, or through the middle.
        IslandThatLeans x = Due.planned("1...../......");
        Due.write(x, "eeeeeww");
        Due.is("seven letters from end to end", x.counter(0, 24, 0), 5);
        Due.is("seven letters, 50 deep", x.counter(0, 25, 0), 11);
    }

    // "it leaves the island, too".
    private static void counterThatLeavesTheIsland() {
        String[] ways = {"n", "e", "s", "w"};
        boolean[][] stays = {{false, false, true, true}, {true, false, true, false},
            {true, true, false, false}, {false, true, false, true}};
        for (int way = 0; way < 4; way++) {
            for (int square = 0; square < 4; square++) {
                int answer = going(ways[way]).counter(square, 1, 1);
                Due.is(ways[way] + " from " + square, answer, stays[way][square] ? 0 : STATE);
            }
        }
        Due.is("by its second letter", going("ee").counter(0, 1, 0), STATE);
        Due.is("by its seventh letter", going("ewewews").counter(2, 1, 0), STATE);
        Due.is("not by its seventh letter", going("ewewewn").counter(2, 1, 0), 1);
        // It may not come back over the water, nor from one row's end to the next row.
        Due.is("out and back", going("we").counter(0, 1, 0), STATE);
        Due.is("from a row's end", going("e").counter(1, 1, 0), STATE);
        Due.is("to a row's end", going("w").counter(2, 1, 0), STATE);
    }

    // "and stays at its end for the rest of the DAY": letters that stood there before are gone.
    private static void counterStaysAtItsEnd() {
        for (String before : new String[] {"nnnnnnn", "eeeeeee", "sssssss", "wwwwwww"}) {
            IslandThatLeans x = going(before);
            Due.is("a way that leaves", x.counter(0, 30, 0), STATE);
            x.blank();
            for (String way : new String[] {"e", "s", "es", "se", "esw", "esnwe"}) {
                Due.write(x, way);
                Due.is(way + " behind " + before, x.counter(0, 30, 0), 3);
                Due.is("wet doors by " + way + " behind " + before, x.counter(0, 30, 1), 0);
                x.blank();
            }
        }
    }

    private static void counterRefusalsInOrder() {
        IslandThatLeans x = going("x");
        Due.is("square, weight, what, no way", x.counter(4, 0, 2), UNKNOWN);
        Due.is("weight, no way", x.counter(0, 100, 0), OUTSIDE);
        Due.is("what, no way", x.counter(0, 1, 2), OUTSIDE);
        IslandThatLeans y = going("n");
        Due.is("square, weight", y.counter(-1, 0, 0), UNKNOWN);
        Due.is("weight, it leaves", y.counter(0, 0, 0), OUTSIDE);
        Due.is("what, it leaves", y.counter(0, 1, -1), OUTSIDE);
    }

    // "of like ones the least. (None may leave the island.)"
    private static void counterOfLikeOnesTheLeast() {
        Due.is("least that goes west", going("e").counter(2, 1, 0), 1);
        Due.is("least that goes south", going("n").counter(2, 1, 0), 0);
        Due.is("least that goes east", going("w").counter(1, 1, 0), 0);
        Due.is("least that goes north", going("s").counter(0, 1, 0), 2);
        IslandThatLeans x = Due.planned(".../.../...");
        Due.write(x, "ss");
        Due.is("least that goes north twice", x.counter(1, 9, 0), 6);
        x.blank();
        Due.write(x, "se");
        Due.is("least that goes north and west", x.counter(0, 9, 0), 4);
    }

    // "fewest DOORS are WET in all QUARTERS together".
    private static void counterInAllQuarters() {
        for (int wet = 0; wet <= 8; wet++) {
            IslandThatLeans x = going("e");
            x.thing(3, 20, 1);
            for (int quarter = 8 - wet; quarter < 8; quarter++) {
                x.stand(0, quarter, 0);
            }
            // From 1 the two dip 20 beside the person's 40; from 3 they are level.
            Due.is("dry in " + wet + " quarters", x.counter(0, 10, 0), wet == 0 ? 1 : 3);
            Due.is("none wet", x.counter(0, 10, 1), 0);
            Due.is("a thing beside it", x.thing(0, 10, 0), 1);
            // Now the person's quarters are wet whichever way it goes.
            Due.is("wet in " + wet + " quarters", x.counter(0, 10, 1), wet);
            Due.is("of like ones the least", x.counter(0, 10, 0), 1);
        }
        // Three doors at once: all of them count.
        IslandThatLeans y = Due.planned("111/...");
        y.thing(4, 99, 1);
        Due.write(y, "e");
        Due.is("three doors in eight quarters", y.counter(3, 1, 1), 24);
    }

    // "THE PAGE stays."
    private static void counterLeavesThePage() {
        IslandThatLeans x = going("es");
        long before = x.digest();
        Due.is("counter()", x.counter(0, 10, 0), 3);
        Due.is("counter() of one that leaves", x.counter(1, 10, 0), STATE);
        Due.is("digest() behind counter()", x.digest(), before);
        Due.is("letters", x.count(4), 2);
    }

    /** What stones() tells for 0 to 4. */
    private static void stonesTell(String of, IslandThatLeans x, int... want) {
        for (int what = 0; what < 5; what++) {
            Due.is("stones(" + what + ") of " + of, x.stones(what), want[what]);
        }
    }

    // Promise 18: "OUTSIDE".
    private static void stonesOutside() {
        IslandThatLeans x = small();
        Due.is("stones(5)", x.stones(5), OUTSIDE);
        Due.is("stones(10)", x.stones(10), OUTSIDE);
        for (int what : FAR) {
            Due.is("stones(" + what + ")", x.stones(what), OUTSIDE);
        }
        Due.is("stones(4)", x.stones(4), NONE);
    }

    private static void stonesWithoutAPlan() {
        IslandThatLeans x = new IslandThatLeans();
        for (int what = 0; what < 5; what++) {
            Due.is("stones(" + what + ") without a plan", x.stones(what), STATE);
        }
        Due.is("stones(5) without a plan", x.stones(5), OUTSIDE);
        Due.is("stones(-1) without a plan", x.stones(-1), OUTSIDE);
        Due.is("stones() done", x.count(7), 0);
    }

    // "STATE: stones() was done 20 times ever (it counts on, whatever is read or restored), too".
    private static void stonesThe20thAndThe21st() {
        IslandThatLeans x = small();
        for (int done = 0; done < 19; done++) {
            Due.is("stones() done", x.count(7), done);
            Due.is("the next one", x.stones(done % 5), done % 5 == 0 ? 0 : NONE);
        }
        Due.write(x, "1./..");
        x.plan();
        Due.is("done, behind another plan", x.count(7), 19);
        Due.is("the 20th", x.stones(0), 0);
        Due.is("the 21st", x.stones(0), STATE);
        Due.is("the 22nd", x.stones(4), STATE);
        Due.is("the 21st, a wrong what", x.stones(5), OUTSIDE);
        Due.is("20 done", x.count(7), 20);
        Due.write(x, "../..");
        x.plan();
        Due.is("the 21st, behind a third plan", x.stones(0), STATE);
    }

    private static void stonesCountOnWhateverIsRestored() {
        IslandThatLeans x = small();
        x.image();
        for (int done = 0; done < 20; done++) {
            x.stones(0);
        }
        Due.is("restore()", x.restore(), 0);
        Due.is("done, behind restore()", x.count(7), 20);
        Due.is("the 21st, behind restore()", x.stones(0), STATE);
    }

    private static void stonesRefusedAreNotDone() {
        IslandThatLeans x = new IslandThatLeans();
        for (int i = 0; i < 21; i++) {
            x.stones(0);
        }
        Due.write(x, "1./..");
        x.plan();
        for (int i = 0; i < 21; i++) {
            x.stones(5);
        }
        Due.is("none was done", x.count(7), 0);
        x.thing(0, 99, 0);
        Due.is("not by two is done, too", x.stones(0), NONE);
        Due.is("one was done", x.count(7), 1);
    }

    private static void stonesNone() {
        IslandThatLeans x = small();
        stonesTell("nothing", x, 0, NONE, NONE, NONE, NONE);
        x.thing(1, 24, 0);
        stonesTell("a dip of 48", x, 0, NONE, NONE, NONE, NONE);
        x.thing(1, 99, 3);
        stonesTell("two stones, dry", x, 0, NONE, NONE, NONE, NONE);
    }

    // "how few of them must stand elsewhere"; "of like ones the least first STONE, its least SQUARE".
    private static void stonesOne() {
        IslandThatLeans x = small();
        x.thing(1, 25, 0);
        stonesTell("a dip of 50", x, 1, 0, 1, NONE, NONE);
        IslandThatLeans y = small();
        y.thing(1, 25, 0);
        y.thing(1, 25, 0);
        // At 1 or 2 it would leave 50.
        stonesTell("a dip of 100", y, 1, 0, 3, NONE, NONE);
        IslandThatLeans z = small();
        z.thing(1, 5, 0);
        z.thing(0, 20, 0);
        z.thing(1, 10, 0);
        z.thing(0, 1, 0);
        // 72: the first leaves 52 at least, so does the second in 1 or 2; in 3 it leaves 32.
        stonesTell("the second of two", z, 1, 2, 3, NONE, NONE);
        IslandThatLeans last = Due.planned("../.1");
        last.thing(1, 30, 3);
        stonesTell("from the last square to the first", last, 1, 0, 0, NONE, NONE);
        IslandThatLeans first = Due.planned("11/1.");
        first.thing(1, 30, 0);
        stonesTell("from the first square to the last", first, 1, 0, 3, NONE, NONE);
    }

    private static void stonesOneAtJust50() {
        IslandThatLeans x = small();
        x.thing(0, 50, 0);
        x.thing(1, 25, 1);
        Due.is("100 less 50", x.stones(0), NONE);
        IslandThatLeans y = small();
        y.thing(0, 50, 0);
        y.thing(1, 26, 1);
        stonesTell("100 less 52", y, 1, 1, 3, NONE, NONE);
    }

    // "then the second one (of a greater number), its SQUARE".
    private static void stonesTwo() {
        IslandThatLeans x = small();
        x.thing(1, 1, 0);
        x.thing(1, 30, 0);
        x.thing(0, 40, 0);
        x.thing(1, 30, 0);
        // 202: one lifts 120 at most; with 0 it is 124; 1 at 1 and 3 at 3 lift 180.
        stonesTell("the second and the third", x, 2, 1, 1, 3, 3);
        IslandThatLeans y = small();
        y.thing(1, 60, 0);
        y.thing(1, 60, 0);
        y.thing(0, 60, 0);
        y.thing(1, 60, 0);
        // 480: two at 3 lift 480; the least two do.
        stonesTell("the first and the second", y, 2, 0, 3, 1, 3);
        IslandThatLeans z = Due.planned("1./.1");
        z.thing(1, 40, 0);
        z.thing(1, 40, 0);
        z.thing(1, 40, 3);
        z.thing(0, 80, 3);
        // 80 to 120: door 3 is wet by 80; stone 2 at 1 leaves 0.
        stonesTell("one, though two would do", z, 1, 2, 1, NONE, NONE);
        IslandThatLeans last = Due.planned("../.1");
        last.thing(1, 30, 3);
        last.thing(0, 40, 3);
        last.thing(1, 40, 3);
        // 220: the first in 0 lifts 120, the second 160: neither is enough, both are.
        stonesTell("both to the first square", last, 2, 0, 0, 2, 0);
    }

    private static void stonesTwoOfEight() {
        IslandThatLeans x = small();
        for (int number = 0; number < 6; number++) {
            x.thing(1, 1, 0);
        }
        x.thing(1, 50, 0);
        x.thing(1, 50, 0);
        // 212: a light one lifts 4 at most, one of 50 lifts 200 in square 3.
        stonesTell("the seventh alone", x, 1, 6, 3, NONE, NONE);
        x.put(6, 3);
        x.put(7, 3);
        Due.is("lifted, dry", x.stones(0), 0);
        IslandThatLeans y = Due.planned("1./..");
        for (int number = 0; number < 5; number++) {
            y.thing(4, 9, 0);
        }
        y.thing(0, 30, 0);
        y.thing(1, 62, 0);
        y.thing(1, 62, 0);
        // 488: both at 3 lift 496, one at 1 and one at 3 lift 372.
        stonesTell("the seventh and the eighth", y, 2, 6, 3, 7, 3);
    }

    // "NONE: not by two", though three might.
    private static void stonesNotByTwo() {
        IslandThatLeans x = small();
        for (int number = 0; number < 3; number++) {
            x.thing(1, 30, 0);
        }
        x.thing(0, 60, 0);
        // 300: two lift 240 at most, three 360.
        stonesTell("three that would do", x, NONE, NONE, NONE, NONE, NONE);
        // Wherever they stand they wet a door: there is no SQUARE beside the island.
        for (int heavy = 1; heavy <= 2; heavy++) {
            IslandThatLeans all = Due.planned("11/11");
            for (int number = 0; number < heavy; number++) {
                all.thing(1, 30 + 60 * number, 3);
            }
            stonesTell("doors in all squares", all, NONE, NONE, NONE, NONE, NONE);
        }
        x.put(0, 3);
        stonesTell("one of them at 3 already", x, 2, 1, 1, 2, 3);
    }

    private static void stonesAreStonesAlone() {
        int[] kinds = {0, 2, 3, 4};
        for (int kind : kinds) {
            IslandThatLeans x = small();
            x.thing(kind, 30, 0);
            stonesTell("kind " + kind, x, NONE, NONE, NONE, NONE, NONE);
            x.thing(1, 40, 1);
            stonesTell("kind " + kind + " and a stone", x, 1, 1, 3, NONE, NONE);
        }
    }

    // "so that no DOOR is WET in any QUARTER".
    private static void stonesInEachQuarter() {
        for (int quarter = 0; quarter < 8; quarter++) {
            IslandThatLeans x = Due.planned("1./.1");
            x.thing(3, 30, 1);
            x.thing(1, 10, 1);
            x.stand(0, quarter, 0);
            stonesTell("wet in " + quarter, x, 1, 1, 3, NONE, NONE);
            x.stand(0, (quarter + 1) % 8, 3);
            // What lifts the one door in a quarter wets the other in the next.
            Due.is("wet in two quarters", x.stones(0), NONE);
        }
    }

    // "must stand elsewhere": in another SQUARE than now.
    private static void stonesStandElsewhere() {
        IslandThatLeans x = small();
        x.thing(1, 30, 3);
        x.thing(1, 70, 0);
        // 80: stone 0 has nowhere to lift more; stone 1 goes to 1.
        stonesTell("one at 3 already", x, 1, 1, 1, NONE, NONE);
        IslandThatLeans y = small();
        y.thing(1, 60, 3);
        y.thing(1, 90, 0);
        y.thing(1, 90, 0);
        // 240: one of the last two lifts 180 in square 1, 360 in 3.
        stonesTell("one goes to 3", y, 1, 1, 3, NONE, NONE);
    }

    // Promise 19: "OUTSIDE: weight (1 to 99)".
    private static void siteOfWeights() {
        IslandThatLeans x = small();
        Due.is("site(0)", x.site(0), OUTSIDE);
        Due.is("site(100)", x.site(100), OUTSIDE);
        for (int weight : new int[] {-1, -99, Integer.MIN_VALUE, Integer.MAX_VALUE}) {
            Due.is("site(" + weight + ")", x.site(weight), OUTSIDE);
        }
        Due.is("site(1)", x.site(1), 0);
        Due.is("site(24)", x.site(24), 0);
        Due.is("site(25)", x.site(25), 1);
        Due.is("site(99)", x.site(99), 1);
        Due.is("things", x.count(2), 0);
    }

    private static void siteWithoutAPlan() {
        IslandThatLeans x = new IslandThatLeans();
        Due.is("site(1)", x.site(1), STATE);
        Due.is("site(99)", x.site(99), STATE);
        Due.is("site(0)", x.site(0), OUTSIDE);
        Due.is("site(100)", x.site(100), OUTSIDE);
    }

    // "of like ones the least".
    private static void siteOfLikeOnesTheLeast() {
        Due.is("without doors", Due.planned("../..").site(99), 0);
        Due.is("beside two doors", Due.planned("11/..").site(99), 2);
        Due.is("three doors", Due.planned("11/1.").site(99), 3);
        // Wet one door whichever: the least of all.
        Due.is("four doors", Due.planned("11/11").site(99), 0);
        IslandThatLeans x = small();
        x.thing(0, 99, 0);
        // 198: only 75 and more in square 3 dry it.
        Due.is("too light", x.site(74), 0);
        Due.is("just enough", x.site(75), 3);
    }

    // "fewest DOORS are WET in all QUARTERS together".
    private static void siteInAllQuarters() {
        for (int quarter = 0; quarter < 8; quarter++) {
            IslandThatLeans x = Due.planned("1./.1");
            x.thing(3, 20, 1);
            x.stand(0, quarter, 0);
            Due.is("40 in quarter " + quarter, x.site(10), 1);
            x.stand(0, quarter, 1);
            Due.is("dry in each", x.site(10), 0);
            // 60 in one quarter, 0 in others: 10 in square 3 dry that one.
            x.thing(4, 5, 1);
            x.stand(0, quarter, 0);
            x.stand(1, quarter, 0);
            Due.is("60 in quarter " + quarter, x.site(10), 3);
            // 30 in square 3 would wet door 3 in seven quarters.
            Due.is("60 in quarter " + quarter + " by a heavy one", x.site(30), 1);
        }
    }

    // A new THING that would be: eight are there and it answers as well.
    private static void siteOfEightThings() {
        IslandThatLeans x = small();
        for (int number = 0; number < 8; number++) {
            x.thing(1, 3, 0);
        }
        Due.is("48 of eight", x.site(1), 1);
        Due.is("things", x.count(2), 8);
    }
}
