/** Promises 7 to 12: a test for each sentence of the document that names a boundary. */
public final class ThingsEdgesTest {
    private static final int NONE = IslandThatLeans.NONE;
    private static final int UNKNOWN = IslandThatLeans.UNKNOWN;
    private static final int OUTSIDE = IslandThatLeans.OUTSIDE;
    private static final int STATE = IslandThatLeans.STATE;
    private static final int FULL = IslandThatLeans.FULL;
    private static final int[] FAR = {-1, Integer.MIN_VALUE, Integer.MAX_VALUE, 64, 1 << 16};

    public static void main(String[] args) {
        thingKinds();
        thingWeightOf1And99();
        thingSquares();
        thingEighthAndNinth();
        thingRefusalsInOrder();
        thingWithoutAPlan();
        thingFullNoMoreBehindRestore();
        anyNumberInOneSquare();
        aboutWhat();
        aboutUnknown();
        aboutUnknownAheadOfOutside();
        aboutFatWeighsTwice();
        aboutPlacesAtFirst();
        asItsOwnNumber();
        asNone();
        asUnknownAndOutside();
        standInEachQuarter();
        standWhereItStands();
        standOfNoPerson();
        standUnknown();
        standUnknownAheadOfState();
        putAllDay();
        putWhereItIs();
        putOfAPerson();
        putUnknown();
        putUnknownAheadOfState();
        tradeInEachQuarter();
        tradeOfLikeSquares();
        tradeWithItself();
        tradeOfNoPerson();
        tradeUnknown();
        tradeUnknownAheadOfState();
        Due.end();
    }

    /** A thing of each kind, numbered as the kind, in the square of that number; two rows of three squares. */
    private static IslandThatLeans ofEachKind() {
        IslandThatLeans x = Due.planned(".../...");
        for (int kind = 0; kind < 5; kind++) {
            x.thing(kind, 10 + kind, kind);
        }
        return x;
    }

    // Promise 7: "OUTSIDE: kind": 0 to 4 alone are KINDS.
    private static void thingKinds() {
        IslandThatLeans x = Due.planned("../..");
        for (int kind = 0; kind < 5; kind++) {
            Due.is("kind " + kind, x.thing(kind, 1, 0), kind);
            Due.is("kind of " + kind, x.about(kind, 0), kind);
        }
        Due.is("kind 5", x.thing(5, 1, 0), OUTSIDE);
        for (int kind : FAR) {
            Due.is("kind " + kind, x.thing(kind, 1, 0), OUTSIDE);
        }
        Due.is("things", x.count(2), 5);
    }

    // "a WEIGHT (1 to 99)".
    private static void thingWeightOf1And99() {
        IslandThatLeans x = Due.planned("../..");
        for (int weight : new int[] {0, 100, -99, -1, Integer.MIN_VALUE, Integer.MAX_VALUE}) {
            for (int kind = 0; kind < 5; kind++) {
                Due.is("weight " + weight + " of kind " + kind, x.thing(kind, weight, 0), OUTSIDE);
            }
        }
        Due.is("things", x.count(2), 0);
        Due.is("weight 1", x.thing(4, 1, 0), 0);
        Due.is("weight 99", x.thing(4, 99, 0), 1);
        Due.is("weight of the light one", x.about(0, 1), 1);
        Due.is("weight of the heavy one", x.about(1, 1), 99);
    }

    // "UNKNOWN: square".
    private static void thingSquares() {
        for (int columns = 2; columns <= 6; columns++) {
            IslandThatLeans x = Due.planned(Due.page(3, columns, '.'));
            Due.is("the square behind the last", x.thing(0, 1, 3 * columns), UNKNOWN);
            for (int square : FAR) {
                Due.is("square " + square, x.thing(0, 1, square), UNKNOWN);
            }
            Due.is("the first square", x.thing(0, 1, 0), 0);
            Due.is("the last square", x.thing(0, 1, 3 * columns - 1), 1);
            Due.is("where that is", x.about(1, 10), 3 * columns - 1);
        }
    }

    // "THINGS (8 at most, numbered)"; "FULL".
    private static void thingEighthAndNinth() {
        for (int kind = 0; kind < 5; kind++) {
            IslandThatLeans x = Due.planned("../..");
            for (int number = 0; number < 8; number++) {
                Due.is("thing " + number + " of kind " + kind, x.thing(kind, number + 1, number % 4), number);
            }
            long before = x.digest();
            Due.is("a ninth", x.thing(kind, 99, 3), FULL);
            Due.is("a tenth", x.thing(0, 1, 0), FULL);
            Due.is("digest() behind FULL", x.digest(), before);
            Due.is("things", x.count(2), 8);
            Due.is("weight of the eighth", x.about(7, 1), 8);
            Due.is("no thing 8", x.about(8, 0), UNKNOWN);
        }
    }

    // "of several the first as told by each call": OUTSIDE: kind, weight; UNKNOWN: square; FULL.
    private static void thingRefusalsInOrder() {
        IslandThatLeans x = Due.planned("../..");
        for (int number = 0; number < 8; number++) {
            x.thing(0, 1, 0);
        }
        Due.is("kind and square", x.thing(5, 1, 4), OUTSIDE);
        Due.is("weight and square", x.thing(0, 0, -1), OUTSIDE);
        Due.is("kind, weight, square", x.thing(-1, 100, 4), OUTSIDE);
        Due.is("square and FULL", x.thing(0, 1, 4), UNKNOWN);
        Due.is("square -1 and FULL", x.thing(0, 1, -1), UNKNOWN);
        Due.is("kind and FULL", x.thing(5, 1, 0), OUTSIDE);
        Due.is("weight and FULL", x.thing(0, 100, 0), OUTSIDE);
        Due.is("FULL alone", x.thing(0, 1, 0), FULL);
    }

    // "Without a PLAN there are no SQUARES".
    private static void thingWithoutAPlan() {
        IslandThatLeans x = new IslandThatLeans();
        Due.is("a thing in square 0", x.thing(0, 1, 0), UNKNOWN);
        Due.is("a wrong kind", x.thing(5, 1, 0), OUTSIDE);
        Due.is("a wrong weight", x.thing(0, 0, 0), OUTSIDE);
        Due.is("things", x.count(2), 0);
        Due.is("about(0, 0)", x.about(0, 0), UNKNOWN);
        Due.is("as(0, 0)", x.as(0, 0), UNKNOWN);
        Due.is("stand(0, 0, 0)", x.stand(0, 0, 0), UNKNOWN);
        Due.is("put(0, 0)", x.put(0, 0), UNKNOWN);
        Due.is("trade(0, 0, 0)", x.trade(0, 0, 0), UNKNOWN);
    }

    private static void thingFullNoMoreBehindRestore() {
        IslandThatLeans x = Due.planned("../..");
        for (int number = 0; number < 7; number++) {
            x.thing(1, 1, 0);
        }
        x.image();
        Due.is("the eighth", x.thing(3, 5, 1), 7);
        Due.is("the ninth", x.thing(3, 5, 1), FULL);
        x.restore();
        Due.is("another eighth", x.thing(4, 6, 2), 7);
        Due.is("its kind", x.about(7, 0), 4);
        Due.is("the ninth again", x.thing(3, 5, 1), FULL);
    }

    // "any number of them in one SQUARE".
    private static void anyNumberInOneSquare() {
        IslandThatLeans x = Due.planned("../.9");
        for (int number = 0; number < 8; number++) {
            x.thing(3, 10, 0);
        }
        for (int number = 0; number < 8; number++) {
            Due.is("where it stood", x.stand(number, 5, 3), 0);
            Due.is("where it stands now", x.about(number, 15), 3);
        }
        Due.is("all eight in square 3", x.dip(3, 5), 160);
        Due.is("all eight in square 0", x.dip(0, 4), 160);
    }

    // Promise 8: "what = 0 KIND, 1 WEIGHT, 2 what it weighs, 10 to 17 where it stands".
    private static void aboutWhat() {
        IslandThatLeans x = ofEachKind();
        for (int kind = 0; kind < 5; kind++) {
            Due.is("kind", x.about(kind, 0), kind);
            Due.is("weight", x.about(kind, 1), 10 + kind);
            Due.is("what it weighs", x.about(kind, 2), kind == 4 ? 28 : 10 + kind);
            for (int what = 3; what < 10; what++) {
                Due.is("about(" + kind + ", " + what + ")", x.about(kind, what), OUTSIDE);
            }
            for (int what = 10; what < 18; what++) {
                Due.is("about(" + kind + ", " + what + ")", x.about(kind, what), kind);
            }
            Due.is("about(" + kind + ", 18)", x.about(kind, 18), OUTSIDE);
            for (int what : FAR) {
                Due.is("about(" + kind + ", " + what + ")", x.about(kind, what), OUTSIDE);
            }
        }
    }

    private static void aboutUnknown() {
        IslandThatLeans x = ofEachKind();
        Due.is("about(5, 0)", x.about(5, 0), UNKNOWN);
        Due.is("about(5, 10)", x.about(5, 10), UNKNOWN);
        for (int thing : FAR) {
            Due.is("about(" + thing + ", 1)", x.about(thing, 1), UNKNOWN);
        }
    }

    private static void aboutUnknownAheadOfOutside() {
        IslandThatLeans x = ofEachKind();
        Due.is("about(5, 3)", x.about(5, 3), UNKNOWN);
        Due.is("about(-1, 18)", x.about(-1, 18), UNKNOWN);
        Due.is("about(0, 18) without a plan", new IslandThatLeans().about(0, 18), UNKNOWN);
    }

    // "a FAT weighs twice that".
    private static void aboutFatWeighsTwice() {
        IslandThatLeans x = Due.planned("../..");
        int[] weights = {1, 50, 99};
        for (int number = 0; number < 3; number++) {
            x.thing(4, weights[number], 0);
            Due.is("weight of a fat", x.about(number, 1), weights[number]);
            Due.is("what a fat weighs", x.about(number, 2), 2 * weights[number]);
        }
        x.thing(3, 99, 0);
        Due.is("what a person weighs", x.about(3, 2), 99);
    }

    // "(at first where it came)".
    private static void aboutPlacesAtFirst() {
        IslandThatLeans x = ofEachKind();
        x.thing(3, 1, 5);
        for (int quarter = 0; quarter < 8; quarter++) {
            Due.is("where person 5 came", x.about(5, 10 + quarter), 5);
            Due.is("where fat 4 came", x.about(4, 10 + quarter), 4);
        }
    }

    // Promise 9: "its own number (not that of the KIND)".
    private static void asItsOwnNumber() {
        IslandThatLeans x = Due.planned("../..");
        int[] kinds = {0, 0, 4, 3, 2, 1, 4, 3};
        for (int kind : kinds) {
            x.thing(kind, 1, 0);
        }
        for (int number = 0; number < 8; number++) {
            Due.is("as(" + number + ", 0)", x.as(number, 0), number);
            Due.is("as its own kind", x.as(number, kinds[number]), number);
        }
        // "a FAT is a PERSON, too".
        Due.is("a fat as a person", x.as(2, 3), 2);
        Due.is("another fat as a person", x.as(6, 3), 6);
    }

    // "NONE: it is none such (the cast fails)".
    private static void asNone() {
        IslandThatLeans x = ofEachKind();
        int[][] none = {{1, 2, 3, 4}, {2, 3, 4}, {1, 3, 4}, {1, 2, 4}, {1, 2}};
        for (int kind = 0; kind < 5; kind++) {
            for (int asked : none[kind]) {
                Due.is("kind " + kind + " as " + asked, x.as(kind, asked), NONE);
            }
        }
    }

    private static void asUnknownAndOutside() {
        IslandThatLeans x = ofEachKind();
        Due.is("as(5, 0)", x.as(5, 0), UNKNOWN);
        Due.is("as(0, 5)", x.as(0, 5), OUTSIDE);
        for (int far : FAR) {
            Due.is("as(" + far + ", 0)", x.as(far, 0), UNKNOWN);
            Due.is("as(4, " + far + ")", x.as(4, far), OUTSIDE);
            Due.is("as(" + far + ", 5)", x.as(far, 5), UNKNOWN);
        }
        Due.is("as(5, -1)", x.as(5, -1), UNKNOWN);
    }

    // Promise 10: "A PERSON stands in a SQUARE in each of them".
    private static void standInEachQuarter() {
        for (int person = 3; person < 5; person++) {
            for (int quarter = 0; quarter < 8; quarter++) {
                IslandThatLeans x = ofEachKind();
                Due.is("where it stood", x.stand(person, quarter, 5), person);
                for (int other = 0; other < 8; other++) {
                    Due.is("where it stands in " + other, x.about(person, 10 + other), other == quarter ? 5 : person);
                    Due.is("where the other stands", x.about(7 - person, 10 + other), 7 - person);
                }
                Due.is("where it stood then", x.stand(person, quarter, 0), 5);
            }
        }
    }

    private static void standWhereItStands() {
        IslandThatLeans x = ofEachKind();
        Due.is("stand(3, 2, 3)", x.stand(3, 2, 3), 3);
        Due.is("it stays", x.about(3, 12), 3);
        x.stand(3, 2, 0);
        Due.is("square 0 is told, too", x.stand(3, 2, 5), 0);
    }

    // "STATE: it is no PERSON."
    private static void standOfNoPerson() {
        IslandThatLeans x = ofEachKind();
        long before = x.digest();
        for (int thing = 0; thing < 3; thing++) {
            for (int quarter = 0; quarter < 8; quarter++) {
                Due.is("stand() of kind " + thing, x.stand(thing, quarter, 5), STATE);
            }
        }
        Due.is("digest() behind STATE", x.digest(), before);
    }

    // "UNKNOWN: thing, quarter, square".
    private static void standUnknown() {
        IslandThatLeans x = ofEachKind();
        long before = x.digest();
        Due.is("thing 5", x.stand(5, 0, 0), UNKNOWN);
        Due.is("quarter 8", x.stand(3, 8, 0), UNKNOWN);
        Due.is("square 6", x.stand(3, 0, 6), UNKNOWN);
        for (int far : FAR) {
            Due.is("thing " + far, x.stand(far, 0, 0), UNKNOWN);
            Due.is("quarter " + far, x.stand(3, far, 0), UNKNOWN);
            Due.is("square " + far, x.stand(3, 0, far), UNKNOWN);
        }
        Due.is("digest() behind UNKNOWN", x.digest(), before);
    }

    private static void standUnknownAheadOfState() {
        IslandThatLeans x = ofEachKind();
        for (int thing = 0; thing < 3; thing++) {
            Due.is("quarter 8 of no person", x.stand(thing, 8, 0), UNKNOWN);
            Due.is("quarter -1 of no person", x.stand(thing, -1, 0), UNKNOWN);
            Due.is("square 6 of no person", x.stand(thing, 0, 6), UNKNOWN);
            Due.is("square -1 of no person", x.stand(thing, 0, -1), UNKNOWN);
        }
    }

    // Promise 11, with "others where they are all DAY".
    private static void putAllDay() {
        for (int thing = 0; thing < 3; thing++) {
            IslandThatLeans x = ofEachKind();
            Due.is("where it was", x.put(thing, 5), thing);
            for (int quarter = 0; quarter < 8; quarter++) {
                for (int other = 0; other < 5; other++) {
                    Due.is("where " + other + " is", x.about(other, 10 + quarter), other == thing ? 5 : other);
                }
            }
            Due.is("where it was then", x.put(thing, 0), 5);
        }
    }

    private static void putWhereItIs() {
        IslandThatLeans x = ofEachKind();
        Due.is("put(0, 0)", x.put(0, 0), 0);
        Due.is("put(2, 2)", x.put(2, 2), 2);
        Due.is("it stays", x.about(2, 17), 2);
    }

    // "STATE: it is a PERSON."
    private static void putOfAPerson() {
        IslandThatLeans x = ofEachKind();
        long before = x.digest();
        Due.is("put() of a person", x.put(3, 0), STATE);
        Due.is("put() of a fat", x.put(4, 0), STATE);
        Due.is("digest() behind STATE", x.digest(), before);
    }

    private static void putUnknown() {
        IslandThatLeans x = ofEachKind();
        long before = x.digest();
        Due.is("thing 5", x.put(5, 0), UNKNOWN);
        Due.is("square 6", x.put(0, 6), UNKNOWN);
        for (int far : FAR) {
            Due.is("thing " + far, x.put(far, 0), UNKNOWN);
            Due.is("square " + far, x.put(0, far), UNKNOWN);
        }
        Due.is("digest() behind UNKNOWN", x.digest(), before);
    }

    private static void putUnknownAheadOfState() {
        IslandThatLeans x = ofEachKind();
        for (int person = 3; person < 5; person++) {
            Due.is("square 6 of a person", x.put(person, 6), UNKNOWN);
            Due.is("square -1 of a person", x.put(person, -1), UNKNOWN);
        }
    }

    // Promise 12: "Two PEOPLE change SQUARES in a QUARTER: whether these were unlike (1, 0)."
    private static void tradeInEachQuarter() {
        for (int quarter = 0; quarter < 8; quarter++) {
            IslandThatLeans x = ofEachKind();
            Due.is("trade(3, 4)", x.trade(3, 4, quarter), 1);
            for (int other = 0; other < 8; other++) {
                Due.is("where 3 stands in " + other, x.about(3, 10 + other), other == quarter ? 4 : 3);
                Due.is("where 4 stands in " + other, x.about(4, 10 + other), other == quarter ? 3 : 4);
            }
            Due.is("trade(4, 3)", x.trade(4, 3, quarter), 1);
            Due.is("where 3 stands again", x.about(3, 10 + quarter), 3);
            Due.is("where 4 stands again", x.about(4, 10 + quarter), 4);
        }
    }

    private static void tradeOfLikeSquares() {
        IslandThatLeans x = ofEachKind();
        x.stand(3, 6, 4);
        Due.is("like squares in quarter 6", x.trade(3, 4, 6), 0);
        Due.is("unlike ones in quarter 7", x.trade(3, 4, 7), 1);
        Due.is("where 3 stands in 6", x.about(3, 16), 4);
        Due.is("where 4 stands in 6", x.about(4, 16), 4);
    }

    private static void tradeWithItself() {
        IslandThatLeans x = ofEachKind();
        Due.is("a person with itself", x.trade(3, 3, 0), 0);
        Due.is("a fat with itself", x.trade(4, 4, 7), 0);
        Due.is("where 3 stands", x.about(3, 10), 3);
        Due.is("a stone with itself", x.trade(1, 1, 0), STATE);
    }

    // "STATE: one is no PERSON."
    private static void tradeOfNoPerson() {
        IslandThatLeans x = ofEachKind();
        long before = x.digest();
        for (int thing = 0; thing < 3; thing++) {
            for (int person = 3; person < 5; person++) {
                Due.is("kind " + thing + " and " + person, x.trade(thing, person, 0), STATE);
                Due.is("kind " + person + " and " + thing, x.trade(person, thing, 0), STATE);
            }
        }
        Due.is("two that are none", x.trade(0, 2, 0), STATE);
        Due.is("digest() behind STATE", x.digest(), before);
    }

    private static void tradeUnknown() {
        IslandThatLeans x = ofEachKind();
        long before = x.digest();
        Due.is("a is 5", x.trade(5, 3, 0), UNKNOWN);
        Due.is("b is 5", x.trade(3, 5, 0), UNKNOWN);
        Due.is("quarter 8", x.trade(3, 4, 8), UNKNOWN);
        for (int far : FAR) {
            Due.is("a is " + far, x.trade(far, 3, 0), UNKNOWN);
            Due.is("b is " + far, x.trade(3, far, 0), UNKNOWN);
            Due.is("quarter " + far, x.trade(3, 4, far), UNKNOWN);
        }
        Due.is("digest() behind UNKNOWN", x.digest(), before);
    }

    // "UNKNOWN: a, b, quarter; STATE": all three are asked ahead of STATE.
    private static void tradeUnknownAheadOfState() {
        IslandThatLeans x = ofEachKind();
        Due.is("a no person, b not there", x.trade(0, 5, 0), UNKNOWN);
        Due.is("b no person, a not there", x.trade(-1, 0, 0), UNKNOWN);
        Due.is("a no person, no quarter", x.trade(0, 3, 8), UNKNOWN);
        Due.is("b no person, no quarter", x.trade(3, 0, -1), UNKNOWN);
    }
}
