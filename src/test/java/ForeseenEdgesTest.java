/** Promises 20 to 23: a test for each sentence of the document that names a boundary. */
public final class ForeseenEdgesTest {
    private static final int NONE = IslandThatLeans.NONE;
    private static final int UNKNOWN = IslandThatLeans.UNKNOWN;
    private static final int OUTSIDE = IslandThatLeans.OUTSIDE;
    private static final int STATE = IslandThatLeans.STATE;
    private static final int[] FAR = {-1, Integer.MIN_VALUE, Integer.MAX_VALUE, 64, 1 << 16};
    /** A seed by which the next draw is 0, 1, 2, 3, 4, and the seed then. */
    private static final int[] SEEDS = {0, 6, 3, 1, 7};
    private static final int[] NEXT_SEEDS = {12345, 178652871, 1163074432, 1103527590, 1282168116};

    public static void main(String[] args) {
        lateInQuarter0And8();
        lateOutsideWhat();
        lateDoorsBeyondTheSquares();
        lateDoorsThatAreFields();
        lateWithoutAPlan();
        lateRefusalsInOrder();
        lateNoSet();
        lateNobody();
        lateOfEightPeople();
        lateAllOfEightPeople();
        lateJustToldDoors();
        lateOfPeopleAlone();
        lateFromTheQuarterAhead();
        stormUnknown();
        stormWithoutAPlan();
        stormAtOnce();
        stormOfFiveMinutes();
        stormNone();
        stormUpOrDownFirst();
        stormMovesPeopleAlone();
        stormInEachQuarter();
        stormToTheMiddleOfEachSize();
        mossWithoutAPlan();
        mossInYear0();
        mossInYear99();
        mossNone();
        mossInEachQuarter();
        mossOnStonesAlone();
        cowsUnknown();
        cowsMinutes();
        cowsSeeds();
        cowsOutsideWhat();
        cowsWithoutAPlan();
        cowsRefusalsInOrder();
        cowsStayWhereThereIsNoSquare();
        cowsBehindTheMinutes();
        cowsOf60Minutes();
        cowsByNumber();
        cowsNotThere();
        cowsOthersStandAsThen();
        cowsThatWouldBe();
        Due.end();
    }

    /** A weight in square 0 dips its door twice itself, one in square 3 lifts it so, others do nothing. */
    private static IslandThatLeans small() {
        return Due.planned("1./..");
    }

    private static void late(IslandThatLeans x, int quarter, int doors, int sets, int inAll, int inSome) {
        String of = "late(" + quarter + ", " + doors + ", ";
        Due.is(of + "0)", x.late(quarter, doors, 0), sets);
        Due.is(of + "1)", x.late(quarter, doors, 1), inAll);
        Due.is(of + "2)", x.late(quarter, doors, 2), inSome);
    }

    // Promise 20: "UNKNOWN: quarter (1 to 7)".
    private static void lateInQuarter0And8() {
        IslandThatLeans x = small();
        for (int quarter = 1; quarter <= 7; quarter++) {
            Due.is("late(" + quarter + ", 0, 0)", x.late(quarter, 0, 0), 1);
        }
        Due.is("late(0, 0, 0)", x.late(0, 0, 0), UNKNOWN);
        Due.is("late(8, 0, 0)", x.late(8, 0, 0), UNKNOWN);
        for (int quarter : FAR) {
            Due.is("late(" + quarter + ", 0, 0)", x.late(quarter, 0, 0), UNKNOWN);
        }
    }

    private static void lateOutsideWhat() {
        IslandThatLeans x = small();
        Due.is("what 2", x.late(1, 0, 2), 0);
        Due.is("what 3", x.late(1, 0, 3), OUTSIDE);
        for (int what : FAR) {
            Due.is("what " + what, x.late(1, 0, what), OUTSIDE);
        }
    }

    // "OUTSIDE: doors (bits of SQUARES)".
    private static void lateDoorsBeyondTheSquares() {
        for (int rows = 2; rows <= 5; rows++) {
            for (int columns = 2; columns <= 6; columns++) {
                int squares = rows * columns;
                IslandThatLeans x = Due.planned(Due.page(rows, columns, '1'));
                Due.is("all of " + squares, x.late(1, (1 << squares) - 1, 0), 0);
                Due.is("the last of " + squares, x.late(1, 1 << squares - 1, 0), 0);
                for (int bit = squares; bit < 32; bit++) {
                    Due.is("bit " + bit + " of " + squares, x.late(1, 1 << bit, 0), OUTSIDE);
                    Due.is("bits 0 and " + bit + " of " + squares, x.late(1, 1 | 1 << bit, 1), OUTSIDE);
                }
                Due.is("all bits", x.late(1, -1, 0), OUTSIDE);
                Due.is("all but the sign", x.late(1, Integer.MAX_VALUE, 0), OUTSIDE);
            }
        }
    }

    private static void lateDoorsThatAreFields() {
        IslandThatLeans x = small();
        x.thing(3, 99, 3);
        late(x, 1, 8, 0, 0, 0);
        x.thing(4, 99, 0);
        late(x, 1, 1, 4, 0, 3);
        late(x, 1, 9, 0, 0, 0);
    }

    private static void lateWithoutAPlan() {
        IslandThatLeans x = new IslandThatLeans();
        Due.is("no doors", x.late(1, 0, 0), STATE);
        Due.is("no doors in quarter 7", x.late(7, 0, 2), STATE);
        Due.is("a door", x.late(1, 1, 0), OUTSIDE);
        Due.is("a wrong what", x.late(1, 0, 3), OUTSIDE);
        Due.is("quarter 0", x.late(0, 0, 0), UNKNOWN);
    }

    private static void lateRefusalsInOrder() {
        IslandThatLeans x = small();
        Due.is("quarter, doors, what", x.late(0, 16, 3), UNKNOWN);
        Due.is("quarter, doors", x.late(8, -1, 0), UNKNOWN);
        Due.is("quarter, what", x.late(-1, 0, -1), UNKNOWN);
    }

    // "(0: there are none)".
    private static void lateNoSet() {
        IslandThatLeans x = small();
        late(x, 4, 1, 0, 0, 0);
        for (int number = 0; number < 8; number++) {
            x.thing(3, 99, 3);
        }
        late(x, 4, 1, 0, 0, 0);
    }

    // "all sets": that of nobody is one.
    private static void lateNobody() {
        IslandThatLeans x = small();
        late(x, 4, 0, 1, 0, 0);
        x.thing(3, 30, 0);
        x.stand(0, 4, 1);
        late(x, 4, 0, 1, 0, 0);
        late(x, 4, 1, 1, 1, 1);
        late(x, 3, 1, 2, 0, 1);
    }

    private static void lateOfEightPeople() {
        IslandThatLeans x = small();
        for (int number = 0; number < 8; number++) {
            x.thing(3 + number % 2, number % 2 == 0 ? 10 : 5, 0);
        }
        late(x, 1, 1, 256, 0, 255);
        for (int number = 0; number < 8; number++) {
            x.stand(number, 1, 1);
        }
        // Each dips 20 where it was: three or more wet the door, 219 sets; 1 and 8 and 28 do not.
        late(x, 1, 1, 219, 0, 255);
        late(x, 1, 0, 37, 0, 255);
    }

    private static void lateAllOfEightPeople() {
        IslandThatLeans x = small();
        for (int number = 0; number < 7; number++) {
            x.thing(3, 30, 0);
            x.stand(number, 6, 3);
        }
        x.thing(4, 40, 0);
        x.stand(7, 6, 3);
        // 580 if all are late; each of the seven who is not takes 120 off, the fat 320: with the fat
        // three and more of the seven wet the door (99 sets), without it six and more (8 sets).
        late(x, 6, 1, 107, 0, 255);
        late(x, 6, 0, 149, 0, 255);
        IslandThatLeans y = Due.planned("9./..");
        for (int number = 0; number < 8; number++) {
            y.thing(3, 29, 0);
            y.stand(number, 6, 1);
        }
        // 464 if all are late, 406 if seven are.
        late(y, 6, 1, 1, 255, 255);
        late(y, 6, 0, 255, 0, 255);
    }

    // "in a QUARTER just told DOORS were WET": no others.
    private static void lateJustToldDoors() {
        IslandThatLeans x = Due.planned("11/..");
        x.thing(3, 60, 0);
        x.thing(3, 60, 1);
        late(x, 2, 3, 4, 0, 3);
        late(x, 2, 1, 0, 0, 0);
        late(x, 2, 2, 0, 0, 0);
        late(x, 2, 0, 0, 0, 0);
        x.stand(1, 3, 2);
        // Person 1 in time lifts door 1; late it wets it.
        late(x, 3, 1, 2, 0, 1);
        late(x, 3, 3, 2, 2, 3);
    }

    // "sets of PEOPLE": a FAT is one, weighing twice; others are never late.
    private static void lateOfPeopleAlone() {
        for (int kind = 0; kind < 5; kind++) {
            IslandThatLeans x = small();
            x.thing(kind, 30, 1);
            boolean isPerson = kind >= 3;
            late(x, 5, 0, isPerson ? 2 : 1, 0, isPerson ? 1 : 0);
        }
        IslandThatLeans x = small();
        x.thing(4, 13, 0);
        x.thing(3, 13, 0);
        x.stand(0, 5, 1);
        x.stand(1, 5, 1);
        // The fat dips 52, the person 26.
        late(x, 5, 1, 2, 1, 3);
        late(x, 5, 0, 2, 0, 2);
    }

    // "who could still have been where they are in the QUARTER ahead".
    private static void lateFromTheQuarterAhead() {
        for (int quarter = 1; quarter < 8; quarter++) {
            IslandThatLeans x = small();
            x.thing(3, 30, 3);
            x.stand(0, quarter - 1, 0);
            late(x, quarter, 1, 1, 1, 1);
            late(x, quarter, 0, 1, 0, 0);
            if (quarter < 7) {
                late(x, quarter + 1, 1, 0, 0, 0);
            }
            if (quarter > 1) {
                late(x, quarter - 1, 0, 1, 1, 1);
            }
            Due.is("it stands where it stood", x.about(0, 10 + quarter), 3);
        }
    }

    // Promise 21: "UNKNOWN: quarter".
    private static void stormUnknown() {
        IslandThatLeans x = small();
        Due.is("storm(0)", x.storm(0), 0);
        Due.is("storm(7)", x.storm(7), 0);
        Due.is("storm(8)", x.storm(8), UNKNOWN);
        for (int quarter : FAR) {
            Due.is("storm(" + quarter + ")", x.storm(quarter), UNKNOWN);
        }
    }

    private static void stormWithoutAPlan() {
        IslandThatLeans x = new IslandThatLeans();
        Due.is("storm(0)", x.storm(0), STATE);
        Due.is("storm(7)", x.storm(7), STATE);
        Due.is("storm(8)", x.storm(8), UNKNOWN);
        Due.is("storm(-1)", x.storm(-1), UNKNOWN);
    }

    private static void stormAtOnce() {
        IslandThatLeans x = small();
        x.thing(3, 24, 0);
        Due.is("a dip of 48", x.storm(0), 0);
        x.thing(3, 1, 0);
        // To 2 they go, then to 3.
        Due.is("a dip of 50", x.storm(0), 1);
    }

    // The farthest corner of the greatest plan is five minutes away.
    private static void stormOfFiveMinutes() {
        IslandThatLeans x = Due.planned("1...../....../....../....../......");
        x.thing(3, 10, 0);
        // 410, 330, 250, 150, 50, -50.
        Due.is("a person of 10", x.storm(0), 5);
        IslandThatLeans y = Due.planned("1...../....../....../....../......");
        y.thing(3, 9, 0);
        // 369, 297, 225, 135, 45.
        Due.is("a person of 9", y.storm(0), 4);
        IslandThatLeans z = Due.planned("....../....../....../....../1.....");
        z.thing(4, 5, 24);
        Due.is("from the other corner", z.storm(0), 5);
    }

    // "NONE": wet behind all minutes.
    private static void stormNone() {
        IslandThatLeans x = Due.planned("....../....../....../....../.....1");
        x.thing(3, 10, 29);
        // 410, 330, 250, 150, 50: there it stays.
        Due.is("wet in the middle", x.storm(0), NONE);
        IslandThatLeans y = small();
        y.thing(1, 25, 0);
        Due.is("without people", y.storm(0), NONE);
        y.thing(3, 1, 3);
        Due.is("a person in the middle", y.storm(0), 0);
        y.thing(0, 1, 0);
        Due.is("a person that cannot help", y.storm(0), NONE);
    }

    // "up or down first, then left or right".
    private static void stormUpOrDownFirst() {
        // The other way first would be dry behind one minute: 248 of 250 asked rather than 264.
        String[] plans = {"5...../....../....../....../......", "....../....../....../....../5....."};
        int[] corners = {0, 24};
        for (int i = 0; i < 2; i++) {
            IslandThatLeans x = Due.planned(plans[i]);
            x.thing(3, 8, corners[i]);
            Due.is("from " + corners[i], x.storm(0), 2);
        }
        // Here it would be dry behind three minutes; up or down it is behind two, by 5 times the weight.
        IslandThatLeans up = Due.planned("1.../..../..../..../....");
        up.thing(3, 5, 0);
        // EAST -3 and SOUTH -4: 125, 85, 45.
        Due.is("down twice", up.storm(0), 2);
        IslandThatLeans back = Due.planned("..../..../..../..../...1");
        back.thing(3, 5, 19);
        // 125, 85, 45.
        Due.is("up twice", back.storm(0), 2);
    }

    // "each PERSON goes": a FAT, too, and all in the same minute; others stay.
    private static void stormMovesPeopleAlone() {
        for (int kind = 0; kind < 5; kind++) {
            IslandThatLeans x = small();
            x.thing(kind, 30, 0);
            Due.is("kind " + kind, x.storm(0), kind >= 3 ? 1 : NONE);
        }
        IslandThatLeans all = Due.planned("1../.../...");
        for (int number = 0; number < 8; number++) {
            all.thing(number % 2 == 0 ? 3 : 4, number % 2 == 0 ? 2 : 1, 0);
        }
        // EAST and SOUTH are -2, 0, 2: eight of 2 dip 128, 64, 0.
        Due.is("eight people", all.storm(0), 2);
    }

    private static void stormInEachQuarter() {
        for (int quarter = 0; quarter < 8; quarter++) {
            IslandThatLeans x = small();
            x.thing(3, 30, 3);
            x.stand(0, quarter, 0);
            for (int other = 0; other < 8; other++) {
                Due.is("storm(" + other + ")", x.storm(other), other == quarter ? 1 : 0);
            }
            Due.is("it stands where it stood", x.about(0, 10 + quarter), 0);
        }
    }

    // "THE MIDDLE (half of the ROWS, half of the columns, rounded down)".
    private static void stormToTheMiddleOfEachSize() {
        for (int rows = 2; rows <= 5; rows++) {
            for (int columns = 2; columns <= 6; columns++) {
                int middle = rows / 2 * columns + columns / 2;
                String fields = Due.page(rows, columns, '.');
                for (int from = 0; from < rows * columns; from++) {
                    stormTo(middle, from, fields, columns);
                }
            }
        }
    }

    /** A person by a door goes to the middle: by its weight the door is dry behind the minute that is due. */
    private static void stormTo(int middle, int from, String fields, int columns) {
        for (int weight : new int[] {99, 20, 8, 5, 3}) {
            IslandThatLeans x = Due.planned(door(fields, from, columns));
            x.thing(3, weight, from);
            int at = from;
            int due = NONE;
            for (int minute = 0; minute < 10 && due == NONE; minute++) {
                int dip = x.square(from, 1) * x.square(at, 1) + x.square(from, 2) * x.square(at, 2);
                due = weight * dip < 50 ? minute : NONE;
                at = nearer(at, middle, columns);
            }
            Due.is("storm() of " + weight + " from " + from + " of " + fields, x.storm(0), due);
        }
    }

    private static int nearer(int at, int middle, int columns) {
        int rows = middle / columns - at / columns;
        return rows != 0 ? at + Integer.signum(rows) * columns : at + Integer.signum(middle - at);
    }

    private static String door(String fields, int square, int columns) {
        StringBuilder text = new StringBuilder(fields);
        text.setCharAt(square + square / columns, '1');
        return text.toString();
    }

    // Promise 22: "STATE."
    private static void mossWithoutAPlan() {
        Due.is("moss()", new IslandThatLeans().moss(), STATE);
        Due.is("moss() with letters", Due.lettered("1./..").moss(), STATE);
    }

    // "behind how many YEARS (0 to 99)".
    private static void mossInYear0() {
        IslandThatLeans x = small();
        x.thing(1, 25, 0);
        Due.is("50 now", x.moss(), 0);
        x.put(0, 3);
        x.thing(0, 99, 0);
        Due.is("wet without moss", x.moss(), 0);
        IslandThatLeans y = small();
        y.thing(1, 24, 0);
        Due.is("48 now", y.moss(), 1);
    }

    private static void mossInYear99() {
        IslandThatLeans x = Due.planned("4./..");
        x.thing(1, 1, 0);
        Due.is("2, and 2 each year, of 200", x.moss(), 99);
        IslandThatLeans y = Due.planned("9./..");
        y.thing(1, 99, 0);
        y.thing(0, 27, 0);
        // 252 of 450: a stone may weigh 198.
        Due.is("252, and 2 each year, of 450", y.moss(), 99);
        y.thing(0, 1, 0);
        Due.is("254, and 2 each year, of 450", y.moss(), 98);
    }

    // "NONE": behind none of them.
    private static void mossNone() {
        IslandThatLeans x = small();
        Due.is("nothing", x.moss(), NONE);
        x.thing(0, 24, 0);
        Due.is("no stone", x.moss(), NONE);
        IslandThatLeans y = Due.planned("9./..");
        y.thing(1, 99, 0);
        y.thing(0, 26, 0);
        Due.is("250, and 2 each year, of 450", y.moss(), NONE);
        IslandThatLeans z = Due.planned("11/11");
        z.thing(1, 99, 0);
        z.thing(1, 99, 3);
        Due.is("two that level each other", z.moss(), NONE);
    }

    private static void mossInEachQuarter() {
        for (int quarter = 0; quarter < 8; quarter++) {
            IslandThatLeans x = small();
            x.thing(1, 5, 0);
            x.thing(3, 10, 1);
            x.stand(1, quarter, 0);
            Due.is("30 in quarter " + quarter, x.moss(), 10);
            x.stand(1, quarter, 1);
            Due.is("10 in all", x.moss(), 20);
        }
    }

    // "each STONE weighs 1 more": no others.
    private static void mossOnStonesAlone() {
        int[] kinds = {0, 2, 3, 4};
        for (int kind : kinds) {
            IslandThatLeans x = small();
            x.thing(kind, 1, 0);
            Due.is("kind " + kind, x.moss(), NONE);
            x.thing(1, 1, 1);
            x.thing(1, 1, 2);
            Due.is("kind " + kind + " and stones beside the door", x.moss(), NONE);
        }
        IslandThatLeans y = small();
        y.thing(1, 1, 0);
        y.thing(1, 1, 0);
        // 4, and 4 each year.
        Due.is("two stones", y.moss(), 12);
        Due.is("they weigh as they did", y.about(0, 2), 1);
    }

    // Promise 23: "UNKNOWN: quarter".
    private static void cowsUnknown() {
        IslandThatLeans x = small();
        Due.is("quarter 0", x.cows(0, 1, 5, 1), 5);
        Due.is("quarter 7", x.cows(7, 1, 5, 1), 5);
        Due.is("quarter 8", x.cows(8, 1, 5, 1), UNKNOWN);
        for (int quarter : FAR) {
            Due.is("quarter " + quarter, x.cows(quarter, 1, 5, 1), UNKNOWN);
        }
    }

    // "OUTSIDE: minutes (1 to 60)".
    private static void cowsMinutes() {
        IslandThatLeans x = small();
        x.thing(2, 1, 0);
        Due.is("0 minutes", x.cows(0, 0, 0, 1), OUTSIDE);
        Due.is("1 minute", x.cows(0, 1, 0, 1), 12345);
        Due.is("60 minutes", x.cows(0, 60, 0, 1), 321843028);
        Due.is("61 minutes", x.cows(0, 61, 0, 1), OUTSIDE);
        for (int minutes : FAR) {
            Due.is(minutes + " minutes", x.cows(0, minutes, 0, 1), OUTSIDE);
        }
    }

    // "seed (0 at least)".
    private static void cowsSeeds() {
        IslandThatLeans x = small();
        x.thing(2, 1, 0);
        Due.is("seed -1", x.cows(0, 1, -1, 1), OUTSIDE);
        Due.is("the least seed", x.cows(0, 1, Integer.MIN_VALUE, 1), OUTSIDE);
        Due.is("seed 0", x.cows(0, 1, 0, 1), 12345);
        Due.is("the greatest seed", x.cows(0, 1, Integer.MAX_VALUE, 1), 1043980748);
        Due.is("60 from the greatest seed", x.cows(0, 60, Integer.MAX_VALUE, 1), 516211811);
        IslandThatLeans y = small();
        Due.is("the greatest seed, undrawn", y.cows(0, 60, Integer.MAX_VALUE, 1), Integer.MAX_VALUE);
    }

    private static void cowsOutsideWhat() {
        IslandThatLeans x = small();
        for (int what = 2; what < 10; what++) {
            Due.is("what " + what, x.cows(0, 1, 0, what), OUTSIDE);
        }
        Due.is("what 18", x.cows(0, 1, 0, 18), OUTSIDE);
        for (int what : FAR) {
            Due.is("what " + what, x.cows(0, 1, 0, what), OUTSIDE);
        }
    }

    private static void cowsWithoutAPlan() {
        IslandThatLeans x = new IslandThatLeans();
        Due.is("cows(0, 1, 0, 0)", x.cows(0, 1, 0, 0), STATE);
        Due.is("cows(7, 60, 0, 17)", x.cows(7, 60, 0, 17), STATE);
        Due.is("0 minutes", x.cows(0, 0, 0, 0), OUTSIDE);
        Due.is("seed -1", x.cows(0, 1, -1, 0), OUTSIDE);
        Due.is("what 2", x.cows(0, 1, 0, 2), OUTSIDE);
        Due.is("quarter 8", x.cows(8, 1, 0, 0), UNKNOWN);
    }

    private static void cowsRefusalsInOrder() {
        IslandThatLeans x = small();
        Due.is("quarter, minutes", x.cows(8, 0, 0, 0), UNKNOWN);
        Due.is("quarter, seed", x.cows(-1, 1, -1, 0), UNKNOWN);
        Due.is("quarter, what", x.cows(8, 1, 0, 9), UNKNOWN);
    }

    // "stays (0) or goes up (1), right (2), down (3), left (4); it stays, where there is no SQUARE".
    private static void cowsStayWhereThereIsNoSquare() {
        int[] down = {0, -1, 0, 1, 0};
        int[] right = {0, 0, 1, 0, -1};
        for (int columns = 2; columns <= 6; columns += 2) {
            for (int square = 0; square < 3 * columns; square++) {
                for (int draw = 0; draw < 5; draw++) {
                    IslandThatLeans x = Due.planned(Due.page(3, columns, '.'));
                    x.thing(2, 1, square);
                    int row = square / columns + down[draw];
                    int column = square % columns + right[draw];
                    boolean isThere = row >= 0 && row < 3 && column >= 0 && column < columns;
                    Due.is("draw " + draw + " from " + square + " of 3 by " + columns,
                            x.cows(0, 1, SEEDS[draw], 10), isThere ? row * columns + column : square);
                    Due.is("the seed then", x.cows(0, 1, SEEDS[draw], 1), NEXT_SEEDS[draw]);
                }
            }
        }
    }

    // "behind how many of the minutes some DOOR is WET": not ahead of the first.
    private static void cowsBehindTheMinutes() {
        IslandThatLeans x = small();
        x.thing(2, 25, 0);
        Due.is("it goes right from the door", x.cows(0, 1, SEEDS[2], 0), 0);
        Due.is("it stays at the door", x.cows(0, 1, SEEDS[0], 0), 1);
        x.put(0, 1);
        Due.is("it goes left to the door", x.cows(0, 1, SEEDS[4], 0), 1);
        x.put(0, 2);
        Due.is("it goes up to the door", x.cows(0, 1, SEEDS[1], 0), 1);
        x.put(0, 3);
        Due.is("it goes up beside the door", x.cows(0, 1, SEEDS[1], 0), 0);
        // Two doors that are wet are one minute.
        IslandThatLeans y = Due.planned("11/..");
        y.thing(2, 1, 3);
        y.thing(0, 60, 0);
        y.thing(0, 60, 1);
        Due.is("two doors in a minute", y.cows(0, 1, 0, 0), 1);
    }

    private static void cowsOf60Minutes() {
        IslandThatLeans x = Due.planned("1./.1");
        x.thing(2, 25, 0);
        long seed = Integer.MAX_VALUE;
        int at = 0;
        int wet = 0;
        for (int minutes = 1; minutes <= 60; minutes++) {
            seed = (1103515245L * seed + 12345L) % 2147483648L;
            int draw = (int) (seed / 65536L % 5L);
            int[][] to = {{0, 1, 2, 3}, {0, 1, 0, 1}, {1, 1, 3, 3}, {2, 3, 2, 3}, {0, 0, 2, 2}};
            at = to[draw][at];
            wet += at == 0 || at == 3 ? 1 : 0;
            Due.is("where it stands behind " + minutes, x.cows(3, minutes, Integer.MAX_VALUE, 10), at);
            Due.is("wet behind " + minutes, x.cows(3, minutes, Integer.MAX_VALUE, 0), wet);
            Due.is("the seed behind " + minutes, x.cows(3, minutes, Integer.MAX_VALUE, 1), seed);
        }
    }

    // "each COW, by number, by a DRAW": one each in each minute, for cows alone.
    private static void cowsByNumber() {
        // The draws by the seed 0 are 0 3 3 2 3 2 0 1 2 0 1 2 4 3 2 0.
        IslandThatLeans x = Due.planned("...../...../...../...../.....");
        for (int number = 0; number < 8; number++) {
            x.thing(2, 1, 12);
        }
        int[] behindOne = {12, 17, 17, 13, 17, 13, 12, 7};
        int[] behindTwo = {13, 17, 12, 14, 16, 18, 13, 7};
        for (int number = 0; number < 8; number++) {
            Due.is("cow " + number + " behind one", x.cows(0, 1, 0, 10 + number), behindOne[number]);
            Due.is("cow " + number + " behind two", x.cows(0, 2, 0, 10 + number), behindTwo[number]);
        }
        int[] kinds = {0, 1, 3, 4};
        for (int kind : kinds) {
            IslandThatLeans y = Due.planned(".../.../...");
            y.thing(kind, 1, 4);
            y.thing(2, 1, 4);
            Due.is("kind " + kind + " stays", y.cows(0, 2, 0, 10), 4);
            // It stays by the first draw, goes down by the second.
            Due.is("the cow beside it", y.cows(0, 2, 0, 11), 7);
            Due.is("two draws alone", y.cows(0, 2, 0, 1), 1406932606);
        }
    }

    // "(NONE: it is not there)".
    private static void cowsNotThere() {
        IslandThatLeans x = small();
        for (int what = 10; what < 18; what++) {
            Due.is("nothing is there", x.cows(0, 1, 0, what), NONE);
        }
        x.thing(1, 1, 3);
        Due.is("a stone is there", x.cows(0, 1, 0, 10), 3);
        Due.is("nothing beside it", x.cows(0, 1, 0, 11), NONE);
        for (int number = 1; number < 8; number++) {
            x.thing(0, 1, 2);
        }
        Due.is("the eighth is there", x.cows(0, 1, 0, 17), 2);
    }

    // "from a QUARTER on, in which all others stand as then".
    private static void cowsOthersStandAsThen() {
        for (int quarter = 0; quarter < 8; quarter++) {
            IslandThatLeans x = small();
            x.thing(3, 30, 3);
            x.thing(2, 1, 3);
            x.stand(0, quarter, 0);
            for (int other = 0; other < 8; other++) {
                Due.is("where the person stands", x.cows(other, 60, 9, 10), other == quarter ? 0 : 3);
                Due.is("wet minutes", x.cows(other, 60, 9, 0), other == quarter ? 60 : 0);
            }
        }
    }

    // "as it would be": nothing goes.
    private static void cowsThatWouldBe() {
        IslandThatLeans x = small();
        x.thing(2, 25, 0);
        x.thing(3, 5, 1);
        long before = x.digest();
        x.cows(0, 60, 3, 0);
        x.cows(5, 60, 3, 10);
        Due.is("digest() behind cows()", x.digest(), before);
        Due.is("the same again", x.cows(0, 1, 0, 1), 12345);
        Due.is("the same once more", x.cows(0, 1, 0, 1), 12345);
    }
}
