/** Promises 13 to 15: a test for each sentence of the document that names a boundary. */
public final class DayEdgesTest {
    private static final int[] FAR = {-1, Integer.MIN_VALUE, Integer.MAX_VALUE, 64, 1 << 16};

    public static void main(String[] args) {
        leansOfNothing();
        leansOfTheHeaviest();
        leansBelowZero();
        leansInEachQuarter();
        leansUnknown();
        leansOutside();
        leansUnknownAheadOfOutside();
        dipOfAField();
        dipOfTheHeaviest();
        dipInEachQuarter();
        dipUnknown();
        wetAtJust50TimesTheHeight();
        wetIsNeverAField();
        wetInEachQuarter();
        wetAsBits();
        wetUnknown();
        Due.end();
    }

    private static void leansOfNothing() {
        IslandThatLeans x = Due.planned("11/11");
        for (int quarter = 0; quarter < 8; quarter++) {
            Due.is("leans to the east", x.leans(quarter, 0), 0);
            Due.is("leans to the south", x.leans(quarter, 1), 0);
            Due.is("dip", x.dip(3, quarter), 0);
            Due.is("a dip of 0 wets nothing", x.wet(quarter), 0);
        }
    }

    /** Eight fats of 99 in the last square of the greatest plan. */
    private static IslandThatLeans heaviest() {
        IslandThatLeans x = Due.planned(Due.page(5, 6, '9'));
        for (int number = 0; number < 8; number++) {
            x.thing(4, 99, 29);
        }
        return x;
    }

    private static void leansOfTheHeaviest() {
        IslandThatLeans x = heaviest();
        Due.is("leans to the east", x.leans(0, 0), 8 * 198 * 5);
        Due.is("leans to the south", x.leans(7, 1), 8 * 198 * 4);
    }

    private static void leansBelowZero() {
        IslandThatLeans x = Due.planned("../..");
        x.thing(1, 99, 0);
        Due.is("leans to the west", x.leans(0, 0), -99);
        Due.is("leans to the north", x.leans(0, 1), -99);
        // -100101 and -100102 are below all that it may lean.
        IslandThatLeans y = Due.planned(Due.page(5, 6, '.'));
        for (int number = 0; number < 8; number++) {
            y.thing(4, 99, 0);
        }
        Due.is("leans farthest to the west", y.leans(3, 0), -7920);
        Due.is("leans farthest to the north", y.leans(3, 1), -6336);
    }

    // "LEANS in a QUARTER": who stands there in that one alone.
    private static void leansInEachQuarter() {
        for (int quarter = 0; quarter < 8; quarter++) {
            IslandThatLeans x = Due.planned(".../...");
            x.thing(3, 10, 0);
            x.thing(4, 7, 4);
            x.stand(0, quarter, 5);
            for (int other = 0; other < 8; other++) {
                Due.is("east in " + other, x.leans(other, 0), other == quarter ? 20 : -20);
                Due.is("south in " + other, x.leans(other, 1), other == quarter ? 24 : 4);
            }
        }
    }

    // Promise 13: "-100101: UNKNOWN: quarter; -100102: OUTSIDE."
    private static void leansUnknown() {
        IslandThatLeans x = Due.planned("../..");
        x.thing(3, 1, 3);
        Due.is("quarter 0", x.leans(0, 0), 1);
        Due.is("quarter 7", x.leans(7, 1), 1);
        Due.is("quarter 8", x.leans(8, 0), -100101);
        for (int quarter : FAR) {
            Due.is("quarter " + quarter, x.leans(quarter, 1), -100101);
        }
        Due.is("quarter 8 without a plan", new IslandThatLeans().leans(8, 0), -100101);
    }

    private static void leansOutside() {
        IslandThatLeans x = Due.planned("../..");
        x.thing(3, 1, 3);
        Due.is("way 2", x.leans(0, 2), -100102);
        for (int way : FAR) {
            Due.is("way " + way, x.leans(7, way), -100102);
        }
        Due.is("way 2 without a plan", new IslandThatLeans().leans(0, 2), -100102);
    }

    private static void leansUnknownAheadOfOutside() {
        IslandThatLeans x = Due.planned("../..");
        Due.is("quarter 8, way 2", x.leans(8, 2), -100101);
        Due.is("quarter -1, way -1", x.leans(-1, -1), -100101);
    }

    // Promise 14: DIP is told of every SQUARE, a field's, too.
    private static void dipOfAField() {
        IslandThatLeans x = Due.planned("..../..../.9..");
        x.thing(1, 10, 1);
        // Leans -10 and -20; EAST -3 -1 1 3 and SOUTH -2 0 2.
        int[] due = {70, 50, 30, 10, 30, 10, -10, -30, -10, -30, -50, -70};
        for (int square = 0; square < 12; square++) {
            Due.is("dip of " + square, x.dip(square, 0), due[square]);
        }
    }

    private static void dipOfTheHeaviest() {
        IslandThatLeans x = heaviest();
        Due.is("the deepest dip", x.dip(29, 0), 7920 * 5 + 6336 * 4);
        Due.is("the highest dip", x.dip(0, 0), -7920 * 5 - 6336 * 4);
    }

    private static void dipInEachQuarter() {
        for (int quarter = 0; quarter < 8; quarter++) {
            IslandThatLeans x = Due.planned("../..");
            x.thing(3, 10, 0);
            x.stand(0, quarter, 3);
            for (int other = 0; other < 8; other++) {
                Due.is("dip in " + other, x.dip(3, other), other == quarter ? 20 : -20);
            }
        }
    }

    // "-1000101: UNKNOWN: square, quarter."
    private static void dipUnknown() {
        IslandThatLeans x = Due.planned(".../...");
        x.thing(1, 1, 5);
        Due.is("square 5, quarter 7", x.dip(5, 7), 5);
        Due.is("square 6", x.dip(6, 0), -1000101);
        Due.is("quarter 8", x.dip(0, 8), -1000101);
        Due.is("square 6, quarter 8", x.dip(6, 8), -1000101);
        for (int far : FAR) {
            Due.is("square " + far, x.dip(far, 0), -1000101);
            Due.is("quarter " + far, x.dip(0, far), -1000101);
        }
        Due.is("square 0 without a plan", new IslandThatLeans().dip(0, 0), -1000101);
    }

    // "A DOOR is WET, if its DIP is 50 times its HEIGHT or more."
    private static void wetAtJust50TimesTheHeight() {
        for (int height = 1; height <= 9; height++) {
            // A weight in square 0 dips its door five times itself, one in square 1 once.
            IslandThatLeans x = Due.planned(height + "../...");
            x.thing(1, 10 * height - 1, 0);
            x.thing(1, 4, 1);
            Due.is("one less than 50 times " + height, x.dip(0, 0), 50 * height - 1);
            Due.is("dry at one less", x.wet(0), 0);
            x.thing(1, 1, 1);
            Due.is("50 times " + height, x.dip(0, 0), 50 * height);
            Due.is("wet at just that", x.wet(0), 1);
            x.thing(1, 1, 1);
            Due.is("wet at one more", x.wet(0), 1);
        }
    }

    // "'.' a field": it is no DOOR.
    private static void wetIsNeverAField() {
        IslandThatLeans x = Due.planned("..../..../....");
        x.thing(4, 99, 0);
        Due.is("no doors", x.wet(0), 0);
        IslandThatLeans y = Due.planned("1.../..../....");
        y.thing(4, 99, 0);
        Due.is("one door among fields", y.wet(0), 1);
        y.put(0, 0);
        y.stand(0, 0, 11);
        Due.is("a door that is lifted", y.wet(0), 0);
    }

    private static void wetInEachQuarter() {
        for (int quarter = 0; quarter < 8; quarter++) {
            IslandThatLeans x = Due.planned("1./.2");
            x.thing(4, 25, 0);
            x.stand(0, quarter, 3);
            for (int other = 0; other < 8; other++) {
                Due.is("wet in " + other, x.wet(other), other == quarter ? 1 << 3 : 1);
            }
        }
    }

    // "Which SQUARES have WET DOORS ..., as bits": the bit of the SQUARE's number, in each SQUARE.
    private static void wetAsBits() {
        IslandThatLeans x = Due.planned(Due.page(5, 6, '1'));
        x.thing(4, 99, 0);
        x.thing(3, 99, 0);
        for (int square = 0; square < 30; square++) {
            x.stand(0, 1, square);
            x.stand(1, 1, square);
            int due = 0;
            for (int door = 0; door < 30; door++) {
                due |= x.dip(door, 1) >= 50 ? 1 << door : 0;
            }
            Due.is("wet with all in square " + square, x.wet(1), due);
        }
        IslandThatLeans one = Due.planned("....../....../....../....../.....1");
        one.thing(1, 99, 29);
        Due.is("the last square's bit", one.wet(0), 1 << 29);
    }

    // Promise 15: "UNKNOWN."
    private static void wetUnknown() {
        IslandThatLeans x = Due.planned("11/11");
        x.thing(1, 99, 0);
        Due.is("quarter 0", x.wet(0), 1);
        Due.is("quarter 7", x.wet(7), 1);
        Due.is("quarter 8", x.wet(8), IslandThatLeans.UNKNOWN);
        for (int quarter : FAR) {
            Due.is("quarter " + quarter, x.wet(quarter), IslandThatLeans.UNKNOWN);
        }
        Due.is("quarter 8 without a plan", new IslandThatLeans().wet(8), IslandThatLeans.UNKNOWN);
    }
}
